import java.util.function.Supplier;

/** Long runs of calls on the class and on the model, chosen by a fixed rule; each answer must be the same. */
public final class ModelTest {

    private static final int RUNS = 400;
    private static final int CALLS = 512;
    private static final int[] ODD = {Integer.MIN_VALUE, -2, -1, 16, 64, 65, 128, 1000, Integer.MAX_VALUE};

    private static long seed;
    private static String trace;

    private final Buddyfield volume = new Buddyfield();
    private final Model model = new Model();
    private final int names;
    private final boolean crashes;
    private final boolean mostlyNames;

    private ModelTest(int run) {
        // Few names meet each other often; 62 names are 16 apart, so that all have one hash.
        names = new int[] {12, 40, 62, 200, 1000}[run % 5];
        crashes = run % 3 != 0;
        mostlyNames = run % 4 == 0;
    }

    public static void main(String[] args) {
        int[] reached = new int[4];
        for (int run = 0; run < RUNS; run++) {
            seed = 77 + 1000003L * run;
            trace = "run " + run;
            ModelTest test = new ModelTest(run);
            for (int call = 0; call < CALLS; call++) {
                test.call();
                test.look();
            }
            test.lookAtAll();
            reached[0] = Math.max(reached[0], test.volume.leaves());
            reached[1] += test.volume.kept() > 0 ? 1 : 0;
            reached[2] += test.volume.listed() > 0 ? 1 : 0;
            reached[3] += test.volume.free() < 20 ? 1 : 0;
        }
        // Runs that never come to these states would show nothing.
        Due.same("many leaves", reached[0] > 25, true);
        Due.same("kept blocks", reached[1] > 20, true);
        Due.same("files on the list", reached[2] > 20, true);
        Due.same("full volumes", reached[3] > 20, true);
        Due.end("the model");
    }

    private static int pick(int bound) {
        seed = seed * 6364136223846793005L + 1442695040888963407L;
        return (int) ((seed >>> 33) % bound);
    }

    private static int oddOr(int usual) {
        return pick(60) == 0 ? ODD[pick(ODD.length)] : usual;
    }

    private int name() {
        int stride = 1000 / names;
        return oddOr(pick(names) * stride);
    }

    private int file() {
        return oddOr(pick(3) == 0 ? pick(16) : pick(4));
    }

    private void call() {
        int kind = mostlyNames && pick(5) > 0 ? pick(2) * 35 : pick(100);
        if (volume.isDown() && pick(3) == 0) {
            same("start()", volume::start, model::start);
        } else if (kind < 18) {
            int name = name();
            same("create(" + name + ")", () -> volume.create(name), () -> model.create(name));
        } else if (kind < 24) {
            int name = name();
            same("open(" + name + ")", () -> volume.open(name), () -> model.open(name));
        } else if (kind < 32) {
            int file = file();
            same("close(" + file + ")", () -> volume.close(file), () -> model.close(file));
        } else if (kind < 40) {
            int name = name();
            same("delete(" + name + ")", () -> volume.delete(name), () -> model.delete(name));
        } else if (kind < 90) {
            callForBlocks(kind);
        } else {
            callForCrashes(kind);
        }
    }

    private void callForBlocks(int kind) {
        int file = file();
        if (kind < 58) {
            write(file, oddOr(pick(64)), oddOr(1 + pick(pick(4) == 0 ? 64 : 12)));
        } else if (kind < 72) {
            writeOnAndFlush(file);
        } else if (kind < 86) {
            flush(file);
        } else {
            int size = oddOr(pick(pick(2) == 0 ? 65 : 16));
            same("cut(" + file + ", " + size + ")", () -> volume.cut(file, size), () -> model.cut(file, size));
        }
    }

    private void write(int file, int first, int many) {
        same("write(" + file + ", " + first + ", " + many + ")",
                () -> volume.write(file, first, many), () -> model.write(file, first, many));
    }

    private void flush(int file) {
        same("flush(" + file + ")", () -> volume.flush(file), () -> model.flush(file));
    }

    /** Blocks that are kept are used only by rows that go on where others end, so some must. */
    private void writeOnAndFlush(int file) {
        int first = 0;
        try {
            int extent = volume.extent(file, pick(volume.extents(file) + 1));
            first = extent / 10000 + extent / 100 % 100;
        } catch (IndexOutOfBoundsException e) {
            first = pick(64);
        }
        for (int turn = pick(4); turn >= 0; turn--) {
            int many = 1 + pick(5);
            write(file, first, many);
            flush(file);
            first += many;
        }
    }

    private void callForCrashes(int kind) {
        if (kind < 96 && crashes) {
            int steps = oddOr(1 + pick(kind < 94 ? 6 : 50));
            same("crashBehind(" + steps + ")", () -> {
                volume.crashBehind(steps);
                return 0;
            }, () -> {
                model.crashBehind(steps);
                return 0;
            });
        } else if (kind < 97) {
            same("crash()", () -> {
                volume.crash();
                return 0;
            }, () -> {
                model.crash();
                return 0;
            });
        } else {
            same("start()", volume::start, model::start);
        }
    }

    private static void same(String call, Supplier<Object> got, Supplier<Object> want) {
        Due.same(trace + ": " + call, answer(got), answer(want));
    }

    private static Object answer(Supplier<Object> call) {
        try {
            return call.get();
        } catch (RuntimeException e) {
            return e.getClass();
        }
    }

    /** A few questions behind each call, about a file and a name chosen anew. */
    private void look() {
        same("isDown", volume::isDown, model::isDown);
        same("files", volume::files, model::files);
        same("listed", volume::listed, model::listed);
        same("free", volume::free, model::free);
        same("freeByFiles", volume::freeByFiles, model::free);
        same("reserved", volume::reserved, model::reserved);
        same("kept", volume::kept, model::kept);
        same("leaves", volume::leaves, model::leaves);
        lookAtFile(file());
        lookAtName(name());
        int group = oddOr(pick(4));
        int order = oddOr(pick(6));
        same("pieces", () -> volume.pieces(group, order), () -> model.pieces(group, order));
        int block = oddOr(pick(128));
        same("isFree", () -> volume.isFree(block), () -> model.isFree(block));
    }

    private void lookAtFile(int file) {
        int place = oddOr(pick(64));
        int extent = oddOr(pick(4));
        same("opens", () -> volume.opens(file), () -> model.opens(file));
        same("blockAt", () -> volume.blockAt(file, place), () -> model.blockAt(file, place));
        same("extents", () -> volume.extents(file), () -> model.extents(file));
        same("extent", () -> volume.extent(file, extent), () -> model.extent(file, extent));
        same("average", () -> volume.average(file), () -> model.average(file));
    }

    private void lookAtName(int name) {
        same("fileOf " + name, () -> volume.fileOf(name), () -> model.fileOf(name));
        same("looks " + name, () -> volume.looks(name), () -> model.looks(name));
    }

    private void lookAtAll() {
        for (int file = 0; file < 16; file++) {
            for (int place = 0; place < 64; place++) {
                int number = file;
                int at = place;
                same("blockAt", () -> volume.blockAt(number, at), () -> model.blockAt(number, at));
            }
            lookAtFile(file);
        }
        for (int name = 0; name < 1000; name++) {
            lookAtName(name);
        }
    }
}
