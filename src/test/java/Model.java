import java.util.ArrayList;
import java.util.Collections;
import java.util.Comparator;
import java.util.HashSet;
import java.util.LinkedList;
import java.util.List;
import java.util.Map;
import java.util.Set;
import java.util.TreeMap;
import java.util.TreeSet;

/**
 * The document once more, in sets and maps and without a thought of speed. It shares no code and no
 * way of holding the state with the class, so that a slip in one of them shows as a difference.
 */
final class Model {

    private static final class Crash extends RuntimeException {
        private static final long serialVersionUID = 1;
    }

    private static final class File {
        final TreeMap<Integer, Integer> mapped = new TreeMap<>();
        final TreeSet<Integer> reserved = new TreeSet<>();
        // Place to block; places may lie above 63.
        final TreeMap<Integer, Integer> kept = new TreeMap<>();
        int opens = 0;
    }

    private static final class Leaf {
        int low = 0;
        boolean continued = false;
        final Set<Integer> names = new HashSet<>();
    }

    private static final int DELETED = 1000;

    private final TreeMap<Integer, File> files = new TreeMap<>();
    private final TreeMap<Integer, Integer> list = new TreeMap<>();
    private final Map<Integer, Integer> fileOfName = new TreeMap<>();
    private final LinkedList<Leaf> leaves = new LinkedList<>();
    private int told = -1;
    private boolean down = false;

    Model() {
        leaves.add(new Leaf());
    }

    // ---- what changes something

    int create(int name) {
        checkName(name);
        checkState(!down && !fileOfName.containsKey(name) && files.size() < 16);
        int number = 0;
        while (files.containsKey(number)) {
            number++;
        }
        files.put(number, new File());
        fileOfName.put(name, number);
        addToLeaf(name);
        return number;
    }

    int open(int name) {
        checkName(name);
        checkState(!down && fileOfName.containsKey(name));
        int number = fileOfName.get(name);
        files.get(number).opens++;
        return number;
    }

    int close(int number) {
        File file = file(number);
        checkState(!down && file.opens > 0);
        int opens = --file.opens;
        try {
            if (opens == 0 && list.containsKey(number)) {
                finish(number);
            }
            return opens;
        } catch (Crash crash) {
            return -1;
        }
    }

    int delete(int name) {
        checkName(name);
        checkState(!down && fileOfName.containsKey(name));
        int number = fileOfName.remove(name);
        for (Leaf leaf : leaves) {
            leaf.names.remove(name);
        }
        list.put(number, DELETED);
        try {
            if (files.get(number).opens == 0) {
                finish(number);
            }
            return number;
        } catch (Crash crash) {
            return -1;
        }
    }

    int write(int number, int first, int many) {
        File file = file(number);
        checkArgument(first >= 0 && first <= 63 && many >= 1 && many <= 64 && first + many <= 64);
        checkState(!down);
        Set<Integer> wanted = new TreeSet<>();
        for (int place = first; place < first + many; place++) {
            wanted.add(place);
        }
        wanted.removeAll(file.mapped.keySet());
        wanted.removeAll(file.reserved);
        if (left() < wanted.size()) {
            checkState(left() + kept() >= wanted.size());
            files.values().forEach(each -> each.kept.clear());
        }
        file.reserved.addAll(wanted);
        return wanted.size();
    }

    int flush(int number) {
        File file = file(number);
        checkState(!down);
        int mapped = file.reserved.size();
        while (!file.reserved.isEmpty()) {
            int place = file.reserved.first();
            int remain = 0;
            while (file.reserved.contains(place + remain)) {
                remain++;
            }
            mapSome(number, file, place, remain);
        }
        return mapped;
    }

    private void mapSome(int number, File file, int place, int remain) {
        if (!file.kept.isEmpty() && file.kept.firstKey() == place) {
            while (remain > 0 && !file.kept.isEmpty()) {
                file.mapped.put(place, file.kept.pollFirstEntry().getValue());
                file.reserved.remove(place);
                place++;
                remain--;
            }
            return;
        }
        Integer ahead = file.mapped.get(place - 1);
        int goal = ahead == null || ahead == 127 ? number % 4 * 32 : ahead + 1;
        List<Integer> found = findFor(goal, remain);
        TreeMap<Integer, Integer> tooMany = new TreeMap<>();
        for (int i = 0; i < found.size(); i++) {
            if (i < remain) {
                file.mapped.put(place + i, found.get(i));
                file.reserved.remove(place + i);
            } else {
                tooMany.put(place + i, found.get(i));
            }
        }
        if (!tooMany.isEmpty()) {
            file.kept.clear();
            file.kept.putAll(tooMany);
        }
    }

    private List<Integer> findFor(int goal, int remain) {
        int length = 0;
        for (int each : new int[] {16, 8, 4, 2, 1}) {
            if (each >= remain) {
                length = each;
            }
        }
        if (length == 0 || length - remain > left()) {
            for (int each : new int[] {1, 2, 4, 8, 16}) {
                if (each <= remain) {
                    length = each;
                }
            }
        }
        Set<Integer> free = freeBlocks();
        while (length > 0) {
            List<Integer> starts = new ArrayList<>();
            if (goal / 32 == (goal + length - 1) / 32) {
                starts.add(goal);
            }
            for (int i = 0; i < 4; i++) {
                for (int start = 0; start < 32; start += length) {
                    starts.add((goal / 32 + i) % 4 * 32 + start);
                }
            }
            for (int start : starts) {
                List<Integer> blocks = row(start, length);
                if (free.containsAll(blocks)) {
                    return blocks;
                }
            }
            length /= 2;
        }
        throw new AssertionError("no block is free for a reserved place");
    }

    private static List<Integer> row(int start, int length) {
        List<Integer> blocks = new ArrayList<>();
        for (int block = start; block < start + length; block++) {
            blocks.add(block);
        }
        return blocks;
    }

    int cut(int number, int size) {
        File file = file(number);
        checkArgument(size >= 0 && size <= 64);
        checkState(!down);
        try {
            return cutTo(number, file, size);
        } catch (Crash crash) {
            return -1;
        }
    }

    void crashBehind(int steps) {
        checkArgument(steps == -1 || steps >= 1 && steps <= 50);
        checkState(!down);
        told = steps;
    }

    void crash() {
        checkState(!down);
        goDown();
    }

    int start() {
        checkState(down);
        down = false;
        List<Integer> begun = new ArrayList<>(list.keySet());
        for (int number : begun) {
            if (list.get(number) == DELETED) {
                finish(number);
            } else {
                cutTo(number, files.get(number), list.get(number));
            }
        }
        return begun.size();
    }

    private int cutTo(int number, File file, int size) {
        list.putIfAbsent(number, size);
        file.reserved.tailSet(size).clear();
        file.kept.clear();
        int steps = 0;
        while (!file.mapped.isEmpty() && file.mapped.lastKey() >= size) {
            int place = file.mapped.lastKey();
            int block = file.mapped.remove(place);
            for (int more = 1; more <= 3; more++) {
                Integer ahead = file.mapped.get(place - more);
                if (place - more < size || ahead == null || ahead != block - more) {
                    break;
                }
                file.mapped.remove(place - more);
            }
            steps++;
            told = told > 0 ? told - 1 : told;
            if (told == 0) {
                goDown();
                throw new Crash();
            }
        }
        if (list.get(number) != DELETED) {
            list.remove(number);
        }
        return steps;
    }

    private void finish(int number) {
        cutTo(number, files.get(number), 0);
        files.remove(number);
        list.remove(number);
    }

    private void goDown() {
        down = true;
        told = -1;
        for (File file : files.values()) {
            file.reserved.clear();
            file.kept.clear();
            file.opens = 0;
        }
    }

    // ---- names

    private static int hash(int name) {
        return name * 5 % 16;
    }

    private int lastLeaf(int hash) {
        int found = 0;
        for (int i = 0; i < leaves.size(); i++) {
            if (leaves.get(i).low <= hash) {
                found = i;
            }
        }
        return found;
    }

    private void addToLeaf(int name) {
        int at = lastLeaf(hash(name));
        Leaf leaf = leaves.get(at);
        if (leaf.names.size() == 4) {
            List<Integer> sorted = new ArrayList<>(leaf.names);
            Collections.sort(sorted, Comparator.<Integer>comparingInt(Model::hash)
                    .thenComparing(Comparator.naturalOrder()));
            Leaf latter = new Leaf();
            latter.names.addAll(sorted.subList(2, 4));
            leaf.names.removeAll(latter.names);
            latter.low = hash(sorted.get(2));
            latter.continued = hash(sorted.get(1)) == latter.low;
            leaves.add(at + 1, latter);
            leaf = leaves.get(lastLeaf(hash(name)));
        }
        leaf.names.add(name);
    }

    /** How many leaves; the name must be in the last of them just if there is such a name. */
    int looks(int name) {
        checkName(name);
        int hash = hash(name);
        int at = lastLeaf(hash);
        while (leaves.get(at).continued && leaves.get(at).low == hash) {
            at--;
        }
        int looks = 1;
        while (!leaves.get(at).names.contains(name) && at + 1 < leaves.size()
                && leaves.get(at + 1).continued && leaves.get(at + 1).low == hash) {
            at++;
            looks++;
        }
        if (leaves.get(at).names.contains(name) != fileOfName.containsKey(name)) {
            throw new AssertionError("a name is not found where it stands");
        }
        return looks;
    }

    // ---- questions

    boolean isDown() {
        return down;
    }

    int files() {
        return files.size();
    }

    int listed() {
        return list.size();
    }

    int opens(int number) {
        return file(number).opens;
    }

    int free() {
        return freeBlocks().size();
    }

    int reserved() {
        return files.values().stream().mapToInt(file -> file.reserved.size()).sum();
    }

    int kept() {
        return files.values().stream().mapToInt(file -> file.kept.size()).sum();
    }

    private int left() {
        return free() - reserved();
    }

    Set<Integer> freeBlocks() {
        Set<Integer> free = new TreeSet<>(row(0, 128));
        for (File file : files.values()) {
            free.removeAll(file.mapped.values());
            free.removeAll(file.kept.values());
        }
        return free;
    }

    int pieces(int group, int order) {
        checkBounds(group >= 0 && group <= 3);
        checkArgument(order >= 0 && order <= 5);
        Set<Integer> free = freeBlocks();
        int count = 0;
        for (int start = 0; start < 128; start += 1 << order) {
            count += start / 32 == group && free.containsAll(row(start, 1 << order)) ? 1 : 0;
        }
        return count;
    }

    boolean isFree(int block) {
        checkBounds(block >= 0 && block <= 127);
        return freeBlocks().contains(block);
    }

    int blockAt(int number, int place) {
        File file = file(number);
        checkArgument(place >= 0 && place <= 63);
        return file.reserved.contains(place) ? -2 : file.mapped.getOrDefault(place, -1);
    }

    /** First place, length and first block of each extent. */
    private List<int[]> extentsOf(int number) {
        List<int[]> extents = new ArrayList<>();
        for (Map.Entry<Integer, Integer> entry : file(number).mapped.entrySet()) {
            int[] last = extents.isEmpty() ? null : extents.get(extents.size() - 1);
            if (last != null && last[0] + last[1] == entry.getKey() && last[2] + last[1] == entry.getValue()) {
                last[1]++;
            } else {
                extents.add(new int[] {entry.getKey(), 1, entry.getValue()});
            }
        }
        return extents;
    }

    int extents(int number) {
        return extentsOf(number).size();
    }

    int extent(int number, int index) {
        List<int[]> extents = extentsOf(number);
        checkBounds(index >= 0 && index < extents.size());
        int[] extent = extents.get(index);
        return extent[0] * 10000 + extent[1] * 100 + extent[2] % 100;
    }

    float average(int number) {
        int extents = extents(number);
        return extents == 0 ? 0 : (float) file(number).mapped.size() / (float) extents;
    }

    int fileOf(int name) {
        checkName(name);
        return fileOfName.getOrDefault(name, -1);
    }

    int leaves() {
        return leaves.size();
    }

    // ---- exceptions

    private File file(int number) {
        checkBounds(files.containsKey(number));
        return files.get(number);
    }

    private static void checkName(int name) {
        checkArgument(name >= 0 && name <= 999);
    }

    private static void checkBounds(boolean holds) {
        if (!holds) {
            throw new IndexOutOfBoundsException();
        }
    }

    private static void checkArgument(boolean holds) {
        if (!holds) {
            throw new IllegalArgumentException();
        }
    }

    private static void checkState(boolean holds) {
        if (!holds) {
            throw new IllegalStateException();
        }
    }
}
