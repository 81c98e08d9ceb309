/**
 * Runs the boundary cases, each as a test of its own. A test is named by its promise, by words of the
 * document on which it stands, and by what it tries; words that the document does not have fail.
 */
final class Edges {

    interface Body {
        void run();
    }

    interface NumberCall {
        void on(Buddyfield volume, int number);
    }

    private final Document document;
    private int promise = Document.NOWHERE;
    private String words = "";
    private int passed = 0;
    private int failed = 0;

    Edges(Document document) {
        this.document = document;
    }

    Edges promise(int number) {
        promise = number;
        return this;
    }

    /** The tests that follow stand on these words, under the promise or in the Terms. */
    Edges on(String quoted) {
        int section = document.quote(promise, quoted);
        words = nameOf(promise) + (section == Document.TERMS ? ", Terms" : "") + ": \"" + quoted + "\"";
        if (section == Document.NOWHERE) {
            note("the document has these words", false);
        }
        return this;
    }

    private static String nameOf(int promise) {
        if (promise == Document.AHEAD) {
            return "ahead of the Terms";
        }
        return promise == Document.TERMS ? "all promises" : "promise " + promise;
    }

    Edges test(String edge, Body body) {
        int checksBefore = Due.checks();
        int wrongBefore = Due.wrong();
        boolean broken = false;
        try {
            body.run();
        } catch (RuntimeException e) {
            broken = true;
            System.out.println("broken off by " + e);
        }
        note(edge, !broken && Due.checks() > checksBefore && Due.wrong() == wrongBefore);
        return this;
    }

    private void note(String edge, boolean holds) {
        System.out.println((holds ? "passed: " : "FAILED: ") + words + ": " + edge);
        passed += holds ? 1 : 0;
        failed += holds ? 0 : 1;
    }

    Edges outOfBounds(String edge, Refusal.Making making, Refusal.CallOn call) {
        return refused(edge, IndexOutOfBoundsException.class, making, call);
    }

    Edges badArgument(String edge, Refusal.Making making, Refusal.CallOn call) {
        return refused(edge, IllegalArgumentException.class, making, call);
    }

    Edges badState(String edge, Refusal.Making making, Refusal.CallOn call) {
        return refused(edge, IllegalStateException.class, making, call);
    }

    private Edges refused(String edge, Class<? extends RuntimeException> due, Refusal.Making making,
            Refusal.CallOn call) {
        return test(edge + ": " + due.getSimpleName() + ", and nothing changes",
                () -> Refusal.due(due, making, call));
    }

    /** The numbers on both sides of those that files have, while the volume is up. */
    Edges noSuchFile(NumberCall call) {
        for (int file : new int[] {-1, 8, 15, 16, Integer.MIN_VALUE, Integer.MAX_VALUE}) {
            outOfBounds("file " + file + ", where there are 0 to 7", Volumes::busy, volume -> call.on(volume, file));
        }
        return outOfBounds("file 0 of a new volume", Buddyfield::new, volume -> call.on(volume, 0))
                .outOfBounds("file 16, where there are 0 to 15", Volumes::full, volume -> call.on(volume, 16))
                .outOfBounds("the number of a file that was deleted", Volumes::withoutFile2,
                        volume -> call.on(volume, 2));
    }

    Edges noSuchFileWhileDown(NumberCall call) {
        return outOfBounds("no such file, and down", Volumes::down, volume -> call.on(volume, 8))
                .outOfBounds("file -1, and down", Volumes::down, volume -> call.on(volume, -1));
    }

    Edges nameOutOfRange(NumberCall call) {
        for (int name : new int[] {-1, 1000, Integer.MIN_VALUE, Integer.MAX_VALUE}) {
            badArgument("name " + name, Volumes::busy, volume -> call.on(volume, name));
        }
        return this;
    }

    Edges nameOutOfRangeWhileDown(NumberCall call) {
        return badArgument("name -1, and down", Volumes::down, volume -> call.on(volume, -1))
                .badArgument("name 1000, and down", Volumes::down, volume -> call.on(volume, 1000));
    }

    int passed() {
        return passed;
    }

    int failed() {
        return failed;
    }
}
