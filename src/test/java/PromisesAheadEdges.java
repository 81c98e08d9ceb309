import java.lang.reflect.Field;
import java.lang.reflect.Method;
import java.lang.reflect.Modifier;

/** What the document says ahead of its Terms: what a volume is, for how many calls, and its public face. */
final class PromisesAheadEdges {

    private static final int CALLS = 512;
    private static final String WHAT_IT_IS = "A volume of blocks for files: writing reserves blocks, flushing allots "
            + "them by buddies near a goal, with some more kept for the file; files are found by hashed leaves; "
            + "they are cut and deleted by steps that a crash may end, and what was begun is finished at the next start.";

    /** Each line of the face as the document has it. */
    private static final String[] METHODS = {
        "public int create(int name) throws IllegalArgumentException, IllegalStateException;",
        "public int open(int name) throws IllegalArgumentException, IllegalStateException;",
        "public int close(int file) throws IndexOutOfBoundsException, IllegalStateException;",
        "public int delete(int name) throws IllegalArgumentException, IllegalStateException;",
        "public int write(int file, int first, int many) "
            + "throws IndexOutOfBoundsException, IllegalArgumentException, IllegalStateException;",
        "public int flush(int file) throws IndexOutOfBoundsException, IllegalStateException;",
        "public int cut(int file, int size) "
            + "throws IndexOutOfBoundsException, IllegalArgumentException, IllegalStateException;",
        "public void crashBehind(int steps) throws IllegalArgumentException, IllegalStateException;",
        "public void crash() throws IllegalStateException;",
        "public int start() throws IllegalStateException;",
        "public boolean isDown();",
        "public int files();",
        "public int listed();",
        "public int opens(int file) throws IndexOutOfBoundsException;",
        "public int free();",
        "public int freeByFiles();",
        "public int reserved();",
        "public int kept();",
        "public int pieces(int group, int order) throws IndexOutOfBoundsException, IllegalArgumentException;",
        "public boolean isFree(int block) throws IndexOutOfBoundsException;",
        "public int blockAt(int file, int place) throws IndexOutOfBoundsException, IllegalArgumentException;",
        "public int extents(int file) throws IndexOutOfBoundsException;",
        "public int extent(int file, int extent) throws IndexOutOfBoundsException;",
        "public float average(int file) throws IndexOutOfBoundsException;",
        "public int fileOf(int name) throws IllegalArgumentException;",
        "public int leaves();",
        "public int looks(int name) throws IllegalArgumentException;",
    };

    private PromisesAheadEdges() {
    }

    static void tests(Edges edges) {
        edges.promise(Document.AHEAD);
        edges.on(WHAT_IT_IS)
                .test("one run from a new object to what a start has finished", PromisesAheadEdges::oneRun);
        edges.on("An object is used for at most 512 calls after it has been made; what later calls answer is free.")
                .test("the 512th call creates a file", () -> lastCall(volume -> volume.create(999), 2))
                .test("the 512th call deletes one", () -> lastCall(volume -> volume.delete(1), 1))
                .test("the 512th call looks for a name over all leaves", PromisesAheadEdges::lastLooks)
                .test("the 512th call flushes what two writes have reserved", PromisesAheadEdges::lastFlush)
                .test("the 512th call starts the volume for the 254th time", PromisesAheadEdges::lastStart);
        face(edges);
    }

    private static void face(Edges edges) {
        edges.on("public final class Buddyfield {")
                .test("public and final", () -> Due.same("modifiers", Buddyfield.class.getModifiers(),
                        Modifier.PUBLIC | Modifier.FINAL));
        edges.on("public Buddyfield();")
                .test("the one constructor", () -> Due.same("constructors", constructors(),
                        "public Buddyfield() throws"));
        edges.on("public static final int NONE = -1;").test("a constant", () -> constant("NONE", -1));
        edges.on("public static final int RESERVED = -2;").test("a constant", () -> constant("RESERVED", -2));
        for (String line : METHODS) {
            edges.on(line).test("as the class declares it", () -> declared(line));
        }
    }

    // ---- what it is

    private static void oneRun() {
        Buddyfield volume = new Buddyfield();
        Due.same("create", volume.create(40), 0);
        Due.same("write", volume.write(0, 0, 5), 5);
        Due.same("reserved", volume.reserved(), 5);
        Due.same("none is chosen", volume.free(), 128);
        Due.same("flush", volume.flush(0), 5);
        Due.same("blocks at the goal", volume.extent(0, 0), 500);
        Due.same("kept for the file", volume.kept(), 3);
        Due.same("found", volume.fileOf(40), 0);
        Due.same("in one leaf", volume.looks(40), 1);
        volume.crashBehind(1);
        Due.same("cut by steps that a crash ends", volume.cut(0, 0), Buddyfield.NONE);
        Due.same("four places by one step", volume.extent(0, 0), 100);
        Due.same("start", volume.start(), 1);
        Due.same("what was begun is finished", volume.free(), 128);
        Due.same("delete", volume.delete(40), 0);
        Due.same("files", volume.files(), 0);
    }

    // ---- the 512th call

    /** 0 and 1 are there, and 2 is created and deleted, until one call of the 512 remains. */
    private static Buddyfield behind511Calls() {
        Buddyfield volume = Volumes.named(0, 1);
        volume.isDown();
        for (int calls = 3; calls < CALLS - 1; calls += 2) {
            volume.create(2);
            volume.delete(2);
        }
        return volume;
    }

    private static void lastCall(Moment.Call call, int due) {
        Due.same("the answer", call.on(behind511Calls()), due);
    }

    /** Creating and deleting names of one hash, five of them at a time, makes many leaves with one low hash. */
    private static void lastLooks() {
        Buddyfield volume = Volumes.named(0, 16, 32, 48, 64);
        Model model = new Model();
        for (int turn = 0; turn < 5; turn++) {
            model.create(16 * turn);
        }
        for (int calls = 5; calls < CALLS - 1; calls += 2) {
            int turn = (calls - 5) / 2;
            volume.delete(turn % 62 * 16);
            model.delete(turn % 62 * 16);
            volume.create((turn + 5) % 62 * 16);
            model.create((turn + 5) % 62 * 16);
        }
        Due.same("a name that is in none of them", volume.looks(992), model.leaves());
        Due.same("many", model.leaves() > 100, true);
    }

    /** Three calls ahead, and 127 times four; each flush but the last one is followed by a cut to 0. */
    private static void lastFlush() {
        Buddyfield volume = Volumes.named(0);
        volume.isDown();
        volume.write(0, 0, 1);
        for (int calls = 3; calls < CALLS - 1; calls += 4) {
            volume.flush(0);
            volume.cut(0, 0);
            volume.write(0, 0, 2);
            volume.write(0, 2, 3);
        }
        Due.same("flush", volume.flush(0), 5);
    }

    /** Seven calls ahead, and 252 times two. */
    private static void lastStart() {
        Buddyfield volume = Volumes.named(0);
        volume.open(0);
        volume.delete(0);
        volume.crash();
        Due.same("start", volume.start(), 1);
        volume.isDown();
        volume.crash();
        for (int calls = 7; calls < CALLS - 1; calls += 2) {
            volume.start();
            volume.crash();
        }
        Due.same("start", volume.start(), 0);
    }

    // ---- the public face

    private static void declared(String line) {
        String name = line.substring(0, line.indexOf('(')).replaceAll(".* ", "");
        int found = 0;
        for (Method method : Buddyfield.class.getDeclaredMethods()) {
            if (method.getName().equals(name)) {
                found++;
                Due.same(name, Modifier.toString(method.getModifiers()) + " " + method.getReturnType() + " " + name
                        + "(" + typesOf(method.getParameterTypes()) + ") throws "
                        + typesOf(method.getExceptionTypes()), withoutNames(line));
            }
        }
        Due.same("methods of this name", found, 1);
    }

    /** The document's line as types alone: "int file" is "int", and what throws nothing has no names behind it. */
    private static String withoutNames(String line) {
        String types = line.replace(";", "").replaceAll("int [a-z]+([,)])", "int$1");
        return types.contains(" throws ") ? types : types + " throws ";
    }

    private static String typesOf(Class<?>[] types) {
        StringBuilder text = new StringBuilder();
        for (Class<?> type : types) {
            text.append(text.length() == 0 ? "" : ", ").append(type.getSimpleName());
        }
        return text.toString();
    }

    private static String constructors() {
        StringBuilder text = new StringBuilder();
        for (var each : Buddyfield.class.getDeclaredConstructors()) {
            text.append(Modifier.toString(each.getModifiers())).append(" Buddyfield(")
                    .append(typesOf(each.getParameterTypes())).append(") throws")
                    .append(typesOf(each.getExceptionTypes()));
        }
        return text.toString();
    }

    private static void constant(String name, int value) {
        try {
            Field field = Buddyfield.class.getDeclaredField(name);
            Due.same("modifiers", Modifier.toString(field.getModifiers()), "public static final");
            Due.same("type", field.getType(), int.class);
            Due.same("value", field.getInt(null), value);
        } catch (ReflectiveOperationException e) {
            Due.same(name, e, null);
        }
    }
}
