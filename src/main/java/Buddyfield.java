import java.util.Arrays;

/** The volume that the document "Buddyfield" tells of; its promises are named there by number. */
public final class Buddyfield {

    public static final int NONE = -1;
    public static final int RESERVED = -2;

    private static final int BLOCKS = 128;
    private static final int GROUPS = 4;
    private static final int GROUP_LENGTH = 32;
    private static final int HIGHEST_ORDER = 5;
    private static final int LONGEST_FIND = 16;
    private static final int FILES = 16;
    private static final int PLACES = 64;
    private static final int STEP_LENGTH = 4;
    private static final int LAST_STEP_TOLD = 50;
    private static final int NAMES = 1000;
    private static final int HASHES = 16;
    private static final int NAMES_OF_LEAF = 4;
    private static final int NAMES_THAT_STAY = 2;
    // A create splits one leaf at most, the first four none, so 512 calls never come to this many.
    private static final int MOST_LEAVES = 512;

    private final Ground ground = new Ground();
    private final Directory directory = new Directory();
    private final Content[] contents = new Content[FILES];
    private int stepsToCrash = NONE;
    private boolean down = false;

    public Buddyfield() {
        for (int file = 0; file < FILES; file++) {
            contents[file] = new Content(file);
        }
    }

    // ---- what changes something

    public int create(int name) throws IllegalArgumentException, IllegalStateException {
        requireName(name);
        requireUp();
        int file = lowestUnusedFile();
        if (file == NONE || directory.fileWith(name) != NONE || directory.isFull()) {
            throw new IllegalStateException("there is such a name, or no room for one more file");
        }
        directory.add(name, file);
        contents[file].begin();
        return file;
    }

    public int open(int name) throws IllegalArgumentException, IllegalStateException {
        requireName(name);
        requireUp();
        int file = requireFileWith(name);
        contents[file].timesOpen++;
        return file;
    }

    public int close(int file) throws IndexOutOfBoundsException, IllegalStateException {
        Content content = requireContent(file);
        requireUp();
        if (content.timesOpen == 0) {
            throw new IllegalStateException("the file is not open");
        }
        content.timesOpen--;
        if (content.isDoomed && content.timesOpen == 0 && !erase(content)) {
            return NONE;
        }
        return content.timesOpen;
    }

    public int delete(int name) throws IllegalArgumentException, IllegalStateException {
        requireName(name);
        requireUp();
        int file = requireFileWith(name);
        Content content = contents[file];
        directory.takeOut(name);
        content.isListed = true;
        content.isDoomed = true;
        if (content.timesOpen == 0 && !erase(content)) {
            return NONE;
        }
        return file;
    }

    public int write(int file, int first, int many)
            throws IndexOutOfBoundsException, IllegalArgumentException, IllegalStateException {
        Content content = requireContent(file);
        requireRange(first, 0, PLACES - 1);
        requireRange(many, 1, PLACES - first);
        requireUp();
        int needed = content.emptyPlaces(first, first + many);
        if (needed > left()) {
            if (needed > left() + kept()) {
                throw new IllegalStateException("less is left than that needs");
            }
            releaseAllKept();
        }
        content.reserve(first, first + many);
        return needed;
    }

    public int flush(int file) throws IndexOutOfBoundsException, IllegalStateException {
        Content content = requireContent(file);
        requireUp();
        int mapped = 0;
        for (int place = 0; place < PLACES; place++) {
            if (content.isReserved(place)) {
                mapped += mapRow(content, place, content.endOfReserved(place));
            }
        }
        return mapped;
    }

    public int cut(int file, int size)
            throws IndexOutOfBoundsException, IllegalArgumentException, IllegalStateException {
        Content content = requireContent(file);
        requireRange(size, 0, PLACES);
        requireUp();
        return cutTo(content, size);
    }

    public void crashBehind(int steps) throws IllegalArgumentException, IllegalStateException {
        if (steps != NONE) {
            requireRange(steps, 1, LAST_STEP_TOLD);
        }
        requireUp();
        stepsToCrash = steps;
    }

    public void crash() throws IllegalStateException {
        requireUp();
        fall();
    }

    public int start() throws IllegalStateException {
        if (!down) {
            throw new IllegalStateException("the volume is not down");
        }
        down = false;
        int begun = listed();
        for (int file = 0; file < FILES; file++) {
            Content content = contents[file];
            if (content.isDoomed) {
                erase(content);
            } else if (content.isListed) {
                cutTo(content, content.listedSize);
            }
        }
        return begun;
    }

    // ---- questions

    public boolean isDown() {
        return down;
    }

    public int files() {
        int count = 0;
        for (int file = 0; file < FILES; file++) {
            count += contents[file].exists ? 1 : 0;
        }
        return count;
    }

    public int listed() {
        int count = 0;
        for (int file = 0; file < FILES; file++) {
            count += contents[file].isListed ? 1 : 0;
        }
        return count;
    }

    public int opens(int file) throws IndexOutOfBoundsException {
        return requireContent(file).timesOpen;
    }

    public int free() {
        return ground.freeBlocks;
    }

    public int freeByFiles() {
        int count = BLOCKS;
        for (int file = 0; file < FILES; file++) {
            count -= contents[file].mappedPlaces() + contents[file].keptBlocks;
        }
        return count;
    }

    public int reserved() {
        int count = 0;
        for (int file = 0; file < FILES; file++) {
            count += contents[file].reservedPlaces;
        }
        return count;
    }

    public int kept() {
        int count = 0;
        for (int file = 0; file < FILES; file++) {
            count += contents[file].keptBlocks;
        }
        return count;
    }

    public int pieces(int group, int order) throws IndexOutOfBoundsException, IllegalArgumentException {
        if (group < 0 || group >= GROUPS) {
            throw new IndexOutOfBoundsException("there is no such group");
        }
        requireRange(order, 0, HIGHEST_ORDER);
        return ground.countPieces(group, 1 << order);
    }

    public boolean isFree(int block) throws IndexOutOfBoundsException {
        if (block < 0 || block >= BLOCKS) {
            throw new IndexOutOfBoundsException("there is no such block");
        }
        return ground.areFree(block, 1);
    }

    public int blockAt(int file, int place) throws IndexOutOfBoundsException, IllegalArgumentException {
        Content content = requireContent(file);
        requireRange(place, 0, PLACES - 1);
        return content.blocks[place];
    }

    public int extents(int file) throws IndexOutOfBoundsException {
        return requireContent(file).countExtents();
    }

    public int extent(int file, int extent) throws IndexOutOfBoundsException {
        Content content = requireContent(file);
        int first = content.beginOfExtent(extent);
        if (first < 0 || first >= PLACES) {
            throw new IndexOutOfBoundsException("there is no such extent");
        }
        return 10000 * first + 100 * content.lengthOfExtent(first) + content.blocks[first] % 100;
    }

    public float average(int file) throws IndexOutOfBoundsException {
        Content content = requireContent(file);
        int extents = content.countExtents();
        return extents == 0 ? 0.0f : (float) content.mappedPlaces() / (float) extents;
    }

    public int fileOf(int name) throws IllegalArgumentException {
        requireName(name);
        return directory.fileWith(name);
    }

    public int leaves() {
        return directory.leafCount;
    }

    public int looks(int name) throws IllegalArgumentException {
        requireName(name);
        return directory.countLooks(name);
    }

    // ---- what a call requires

    private static void requireRange(int value, int least, int greatest) {
        if (value < least || value > greatest) {
            throw new IllegalArgumentException("an argument is out of its range");
        }
    }

    private static void requireName(int name) {
        requireRange(name, 0, NAMES - 1);
    }

    private void requireUp() {
        if (down) {
            throw new IllegalStateException("the volume is down");
        }
    }

    private Content requireContent(int file) {
        if (file < 0 || file >= FILES || !contents[file].exists) {
            throw new IndexOutOfBoundsException("there is no such file");
        }
        return contents[file];
    }

    private int requireFileWith(int name) {
        int file = directory.fileWith(name);
        if (file < 0 || file >= FILES) {
            throw new IllegalStateException("there is no such name");
        }
        return file;
    }

    private int lowestUnusedFile() {
        for (int file = 0; file < FILES; file++) {
            if (!contents[file].exists) {
                return file;
            }
        }
        return NONE;
    }

    // ---- allotting blocks

    private int left() {
        return free() - reserved();
    }

    private void releaseKept(Content content) {
        ground.release(content.firstKept, content.keptBlocks);
        content.keptBlocks = 0;
    }

    private void releaseAllKept() {
        for (int file = 0; file < FILES; file++) {
            releaseKept(contents[file]);
        }
    }

    private int mapRow(Content content, int first, int end) {
        int place = first;
        // Each turn maps a place at least, so there are never more turns than places.
        for (int turn = 0; turn < PLACES && place < end; turn++) {
            if (content.isKeptFor(place)) {
                place += content.mapKept(place, end - place);
            } else {
                place += mapFound(content, place, end - place);
            }
        }
        return place - first;
    }

    private int mapFound(Content content, int place, int remaining) {
        int goal = goalFor(content, place);
        int length = lengthFor(remaining);
        int block = ground.find(goal, length);
        while (block == NONE && length > 1) {
            length /= 2;
            block = ground.find(goal, length);
        }
        if (block == NONE) {
            return 0;
        }
        int mapped = Math.min(length, remaining);
        ground.take(block, length);
        content.map(place, block, mapped);
        if (length > mapped) {
            releaseKept(content);
            content.keep(place + mapped, block + mapped, length - mapped);
        }
        return mapped;
    }

    private int goalFor(Content content, int place) {
        if (content.isMapped(place - 1)) {
            int behind = content.blocks[place - 1] + 1;
            if (behind < BLOCKS) {
                return behind;
            }
        }
        return content.file % GROUPS * GROUP_LENGTH;
    }

    private int lengthFor(int remaining) {
        int length = 1;
        while (length < remaining && length < LONGEST_FIND) {
            length *= 2;
        }
        // Half of the least power that is not below is the greatest one that is not above.
        return length - remaining > left() ? length / 2 : length;
    }

    // ---- cutting, deleting, crashing

    private int cutTo(Content content, int size) {
        content.isListed = true;
        content.listedSize = size;
        content.dropReserved(size);
        releaseKept(content);
        int steps = 0;
        for (int place = PLACES - 1; place >= size; place--) {
            if (content.isMapped(place)) {
                step(content, place, size);
                steps++;
                if (crashIsDue()) {
                    fall();
                    return NONE;
                }
            }
        }
        content.isListed = content.isDoomed;
        return steps;
    }

    private void step(Content content, int last, int size) {
        int first = last;
        while (first > size && last - first < STEP_LENGTH - 1 && content.joinsAhead(first)) {
            first--;
        }
        for (int place = first; place <= last; place++) {
            ground.release(content.blocks[place], 1);
            content.blocks[place] = NONE;
        }
    }

    private boolean crashIsDue() {
        if (stepsToCrash == NONE) {
            return false;
        }
        stepsToCrash--;
        return stepsToCrash == 0;
    }

    private void fall() {
        down = true;
        stepsToCrash = NONE;
        releaseAllKept();
        for (int file = 0; file < FILES; file++) {
            contents[file].dropReserved(0);
            contents[file].timesOpen = 0;
        }
    }

    /** Answers false if a crash has come first: then the file stays, for the next start to erase. */
    private boolean erase(Content content) {
        if (cutTo(content, 0) == NONE) {
            return false;
        }
        content.exists = false;
        content.isListed = false;
        content.isDoomed = false;
        return true;
    }

    private static int hashOf(int name) {
        return 5 * name % HASHES;
    }

    /** Which blocks are free. */
    private static final class Ground {

        private final boolean[] isTaken = new boolean[BLOCKS];
        private int freeBlocks = BLOCKS;

        private boolean areFree(int first, int length) {
            if (first < 0 || length > BLOCKS - first) {
                return false;
            }
            for (int block = first; block < first + length; block++) {
                if (isTaken[block]) {
                    return false;
                }
            }
            return true;
        }

        private void take(int first, int length) {
            mark(first, length, true);
        }

        private void release(int first, int length) {
            mark(first, length, false);
        }

        private void mark(int first, int length, boolean taken) {
            if (first < 0 || length > BLOCKS - first) {
                return;
            }
            for (int block = first; block < first + length; block++) {
                if (isTaken[block] != taken) {
                    isTaken[block] = taken;
                    freeBlocks += taken ? -1 : 1;
                }
            }
        }

        /** Answers the first of the blocks that are found for one length, or NONE. */
        private int find(int goal, int length) {
            int group = goal / GROUP_LENGTH;
            boolean staysInGroup = goal % GROUP_LENGTH + length <= GROUP_LENGTH;
            if (staysInGroup && areFree(goal, length)) {
                return goal;
            }
            for (int turn = 0; turn < GROUPS; turn++) {
                int block = firstPiece((group + turn) % GROUPS, length);
                if (block != NONE) {
                    return block;
                }
            }
            return NONE;
        }

        private int firstPiece(int group, int length) {
            int begin = group * GROUP_LENGTH;
            for (int block = begin; block < begin + GROUP_LENGTH; block++) {
                if (isFreePiece(block, length)) {
                    return block;
                }
            }
            return NONE;
        }

        private int countPieces(int group, int length) {
            int begin = group * GROUP_LENGTH;
            int count = 0;
            for (int block = begin; block < begin + GROUP_LENGTH; block++) {
                count += isFreePiece(block, length) ? 1 : 0;
            }
            return count;
        }

        private boolean isFreePiece(int first, int length) {
            // Lengths are powers of two, so the mask tells what is left over by a division.
            return (first & (length - 1)) == 0 && areFree(first, length);
        }
    }

    /** One file: its places, the blocks kept for it, and what is begun with it. */
    private static final class Content {

        private final int file;
        private final int[] blocks = new int[PLACES];
        private boolean exists = false;
        private int timesOpen = 0;
        private int reservedPlaces = 0;
        private int keptPlace = 0;
        private int firstKept = 0;
        private int keptBlocks = 0;
        private boolean isListed = false;
        private boolean isDoomed = false;
        private int listedSize = 0;

        private Content(int file) {
            this.file = file;
            Arrays.fill(blocks, NONE);
        }

        private void begin() {
            // An erased file has left nothing behind, so its row is as good as a new one.
            exists = true;
        }

        private boolean isMapped(int place) {
            return place >= 0 && place < PLACES && blocks[place] >= 0;
        }

        private boolean isReserved(int place) {
            return place >= 0 && place < PLACES && blocks[place] == RESERVED;
        }

        private int endOfReserved(int first) {
            int end = first;
            while (end < PLACES && isReserved(end)) {
                end++;
            }
            return end;
        }

        private int emptyPlaces(int first, int end) {
            int count = 0;
            for (int place = first; place < end && place < PLACES; place++) {
                count += blocks[place] == NONE ? 1 : 0;
            }
            return count;
        }

        private void reserve(int first, int end) {
            for (int place = first; place < end && place < PLACES; place++) {
                if (blocks[place] == NONE) {
                    blocks[place] = RESERVED;
                    reservedPlaces++;
                }
            }
        }

        private void dropReserved(int size) {
            for (int place = size; place < PLACES; place++) {
                if (blocks[place] == RESERVED) {
                    blocks[place] = NONE;
                    reservedPlaces--;
                }
            }
        }

        private void map(int first, int block, int many) {
            for (int i = 0; i < many && first + i < PLACES; i++) {
                blocks[first + i] = block + i;
                reservedPlaces--;
            }
        }

        private void keep(int place, int block, int many) {
            keptPlace = place;
            firstKept = block;
            keptBlocks = many;
        }

        private boolean isKeptFor(int place) {
            return keptBlocks > 0 && keptPlace == place;
        }

        private int mapKept(int place, int remaining) {
            int mapped = Math.min(keptBlocks, remaining);
            map(place, firstKept, mapped);
            keep(place + mapped, firstKept + mapped, keptBlocks - mapped);
            return mapped;
        }

        private int mappedPlaces() {
            int count = 0;
            for (int place = 0; place < PLACES; place++) {
                count += blocks[place] >= 0 ? 1 : 0;
            }
            return count;
        }

        /** Tells whether a place is of the same extent as the one ahead of it. */
        private boolean joinsAhead(int place) {
            return isMapped(place) && isMapped(place - 1) && blocks[place] == blocks[place - 1] + 1;
        }

        private boolean beginsExtent(int place) {
            return isMapped(place) && !joinsAhead(place);
        }

        private int countExtents() {
            int count = 0;
            for (int place = 0; place < PLACES; place++) {
                count += beginsExtent(place) ? 1 : 0;
            }
            return count;
        }

        private int beginOfExtent(int extent) {
            int ahead = 0;
            for (int place = 0; place < PLACES; place++) {
                if (beginsExtent(place)) {
                    if (ahead == extent) {
                        return place;
                    }
                    ahead++;
                }
            }
            return NONE;
        }

        private int lengthOfExtent(int first) {
            int end = first + 1;
            while (end < PLACES && joinsAhead(end)) {
                end++;
            }
            return end - first;
        }
    }

    /** All names, in a chain of leaves by rising low hashes. */
    private static final class Directory {

        private final Leaf firstLeaf = new Leaf(0, false);
        private int leafCount = 1;

        private boolean isFull() {
            return leafCount >= MOST_LEAVES;
        }

        private void add(int name, int file) {
            Leaf leaf = lastLeafFor(hashOf(name));
            if (leaf.count == NAMES_OF_LEAF) {
                leaf.split();
                leafCount++;
                leaf = lastLeafFor(hashOf(name));
            }
            leaf.insert(name, file);
        }

        private void takeOut(int name) {
            lastLookedAt(name).takeOut(name);
        }

        private int fileWith(int name) {
            return lastLookedAt(name).fileWith(name);
        }

        private int countLooks(int name) {
            Leaf last = lastLookedAt(name);
            int count = 1;
            for (Leaf leaf = firstLookedAt(name); leaf != null && leaf != last; leaf = leaf.next) {
                count++;
            }
            return count;
        }

        private Leaf lastLeafFor(int hash) {
            Leaf last = firstLeaf;
            for (Leaf leaf = firstLeaf; leaf != null; leaf = leaf.next) {
                if (leaf.low <= hash) {
                    last = leaf;
                }
            }
            return last;
        }

        private Leaf firstLookedAt(int name) {
            int hash = hashOf(name);
            Leaf leaf = lastLeafFor(hash);
            while (leaf.continues(hash) && leaf.back != null) {
                leaf = leaf.back;
            }
            return leaf;
        }

        private Leaf lastLookedAt(int name) {
            int hash = hashOf(name);
            Leaf leaf = firstLookedAt(name);
            while (!leaf.has(name) && leaf.next != null && leaf.next.continues(hash)) {
                leaf = leaf.next;
            }
            return leaf;
        }
    }

    /** Up to four names, by rising hashes and names, as a split wants them. */
    private static final class Leaf {

        private final int low;
        private final boolean continued;
        private final int[] names = new int[NAMES_OF_LEAF];
        private final int[] files = new int[NAMES_OF_LEAF];
        private int count = 0;
        private Leaf back = null;
        private Leaf next = null;

        private Leaf(int low, boolean continued) {
            this.low = low;
            this.continued = continued;
        }

        private boolean continues(int hash) {
            return continued && low == hash;
        }

        private int indexOf(int name) {
            for (int i = 0; i < count && i < NAMES_OF_LEAF; i++) {
                if (names[i] == name) {
                    return i;
                }
            }
            return NONE;
        }

        private boolean has(int name) {
            return indexOf(name) != NONE;
        }

        private int fileWith(int name) {
            int index = indexOf(name);
            return index < 0 ? NONE : files[index];
        }

        private void insert(int name, int file) {
            if (count >= NAMES_OF_LEAF) {
                return;
            }
            int index = count;
            while (index > 0 && rankOf(names[index - 1]) > rankOf(name)) {
                names[index] = names[index - 1];
                files[index] = files[index - 1];
                index--;
            }
            names[index] = name;
            files[index] = file;
            count++;
        }

        private static int rankOf(int name) {
            return hashOf(name) * NAMES + name;
        }

        private void takeOut(int name) {
            int index = indexOf(name);
            if (index < 0) {
                return;
            }
            count--;
            for (int i = index; i < count; i++) {
                names[i] = names[i + 1];
                files[i] = files[i + 1];
            }
        }

        private void split() {
            int low = hashOf(names[NAMES_THAT_STAY]);
            boolean continued = low == hashOf(names[NAMES_THAT_STAY - 1]);
            Leaf latter = new Leaf(low, continued);
            for (int i = NAMES_THAT_STAY; i < count && i < NAMES_OF_LEAF; i++) {
                latter.insert(names[i], files[i]);
            }
            count = NAMES_THAT_STAY;
            linkBehind(latter);
        }

        private void linkBehind(Leaf latter) {
            latter.back = this;
            latter.next = next;
            if (next != null) {
                next.back = latter;
            }
            next = latter;
        }
    }
}
