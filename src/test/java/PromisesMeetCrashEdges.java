/**
 * A cut or a deletion that a crash ends: what each call answers behind the crash, and what behind the next
 * start. The names 10, 26, 42, 58, 74 and 90 have the hash 2.
 */
final class PromisesMeetCrashEdges {

    private static final String CRASH = "A crash comes when it is called for, or right behind a step, "
            + "if it was told so; steps and all else that would follow do not come then.";
    private static final String START = "With a start all files on the list, by rising numbers, "
            + "are cut to their sizes, or deleted, and are off the list.";
    private static final String DELETED = "If it is not open, or as soon as it is closed for the last time, "
            + "it is cut to 0, and there is no such file any more";
    private static final String STAYS_LISTED =
            "a file that is to be deleted stays on the list as that until then, whatever it is cut to";

    private PromisesMeetCrashEdges() {
    }

    static void tests(Edges edges) {
        edges.promise(Document.TERMS);
        endedCut(edges);
        endedDeletion(edges);
        endedClose(edges);
        endedCutOfAFileToBeDeleted(edges);
        crashWithSeveralListed(edges);
        toldSteps(edges);
        eachStep(edges);
    }

    /**
     * Five files in two leaves (10, 26 and 42, 58, 74). File 1 has 11 places in the blocks 32 to 42, 43 to 47
     * are kept for it, and two places are reserved; file 2 has 64 to 69, 70 and 71 are kept for it, and it
     * is open twice; file 3 has 96 to 99, and three places are reserved.
     */
    private static Buddyfield fiveFiles() {
        Buddyfield volume = Volumes.named(10, 26, 42, 58, 74);
        Due.writeAndFlush(volume, 1, 0, 11);
        volume.write(1, 20, 2);
        Due.writeAndFlush(volume, 2, 0, 6);
        volume.open(42);
        volume.open(42);
        Due.writeAndFlush(volume, 3, 0, 4);
        volume.write(3, 10, 3);
        return volume;
    }

    private static Buddyfield started(Buddyfield volume) {
        volume.start();
        return volume;
    }

    // ---- a cut

    /** The steps take the places 10 to 7 and 6 to 3; the third one, 2 and 1, does not come. */
    private static Buddyfield cutEnded() {
        Buddyfield volume = fiveFiles();
        volume.crashBehind(2);
        volume.cut(1, 1);
        return volume;
    }

    private static Buddyfield cutFinished() {
        return started(cutEnded());
    }

    private static void endedCut(Edges edges) {
        edges.on(CRASH);
        new Moment(edges, "ahead of a cut", PromisesMeetCrashEdges::fiveFiles)
                .leaves("crashBehind(2), cut(1, 1)", "-1", volume -> {
                    volume.crashBehind(2);
                    return "" + volume.cut(1, 1);
                })
                .answers("cut(1, 1) without a crash", 3, volume -> volume.cut(1, 1));
        Moment down = new Moment(edges, "behind the crash in a cut", PromisesMeetCrashEdges::cutEnded);
        down.answers("isDown()", true, Buddyfield::isDown)
                .answers("files()", 5, Buddyfield::files)
                .answers("listed()", 1, Buddyfield::listed)
                .answers("opens(2)", 0, volume -> volume.opens(2))
                .answers("free()", 115, Buddyfield::free)
                .answers("freeByFiles()", 115, Buddyfield::freeByFiles)
                .answers("reserved()", 0, Buddyfield::reserved)
                .answers("kept()", 0, Buddyfield::kept)
                .pieces(1, "29 14 7 3 1 0")
                .pieces(2, "26 13 6 3 1 0")
                .answers("isFree(34), still mapped,", false, volume -> volume.isFree(34))
                .answers("isFree(35), cut already,", true, volume -> volume.isFree(35))
                .answers("isFree(43), kept before,", true, volume -> volume.isFree(43))
                .answers("isFree(70), kept before for another file,", true, volume -> volume.isFree(70));
        down.answers("blockAt(1, 2)", 34, volume -> volume.blockAt(1, 2))
                .answers("blockAt(1, 3)", Buddyfield.NONE, volume -> volume.blockAt(1, 3))
                .answers("blockAt(1, 20), reserved before,", Buddyfield.NONE, volume -> volume.blockAt(1, 20))
                .answers("blockAt(3, 10), reserved before,", Buddyfield.NONE, volume -> volume.blockAt(3, 10))
                .answers("extents(1)", 1, volume -> volume.extents(1))
                .answers("extent(1, 0)", 332, volume -> volume.extent(1, 0))
                .answers("average(1)", 3.0f, volume -> volume.average(1))
                .answers("fileOf(26)", 1, volume -> volume.fileOf(26))
                .answers("leaves()", 2, Buddyfield::leaves)
                .answers("looks(26)", 1, volume -> volume.looks(26))
                .answers("looks(42)", 2, volume -> volume.looks(42))
                .refusesAllWhileDown(2, 42, 90);
        behindTheStartOfACut(edges);
    }

    private static void behindTheStartOfACut(Edges edges) {
        edges.on(START);
        new Moment(edges, "behind the crash in a cut", PromisesMeetCrashEdges::cutEnded)
                .answers("start()", 1, Buddyfield::start);
        Moment up = new Moment(edges, "behind the start that ends a cut", PromisesMeetCrashEdges::cutFinished);
        up.answers("isDown()", false, Buddyfield::isDown)
                .answers("files()", 5, Buddyfield::files)
                .answers("listed()", 0, Buddyfield::listed)
                .answers("opens(2)", 0, volume -> volume.opens(2))
                .answers("free()", 117, Buddyfield::free)
                .answers("freeByFiles()", 117, Buddyfield::freeByFiles)
                .answers("reserved()", 0, Buddyfield::reserved)
                .answers("kept()", 0, Buddyfield::kept)
                .pieces(1, "31 15 7 3 1 0")
                .answers("isFree(32)", false, volume -> volume.isFree(32))
                .answers("isFree(33)", true, volume -> volume.isFree(33))
                .answers("blockAt(1, 0)", 32, volume -> volume.blockAt(1, 0))
                .answers("blockAt(1, 1)", Buddyfield.NONE, volume -> volume.blockAt(1, 1))
                .answers("extents(1)", 1, volume -> volume.extents(1))
                .answers("extent(1, 0)", 132, volume -> volume.extent(1, 0))
                .answers("average(1)", 1.0f, volume -> volume.average(1))
                .answers("fileOf(26)", 1, volume -> volume.fileOf(26))
                .answers("leaves()", 2, Buddyfield::leaves)
                .answers("looks(42)", 2, volume -> volume.looks(42));
        up.answers("create(90)", 5, volume -> volume.create(90))
                .answers("open(42)", 2, volume -> volume.open(42))
                .refuses("close(2), no longer open", volume -> volume.close(2))
                .answers("delete(26)", 1, volume -> volume.delete(26))
                .answers("write(3, 9, 5), of which three were reserved before,", 5, volume -> volume.write(3, 9, 5))
                .answers("flush(1), reserved no longer,", 0, volume -> volume.flush(1))
                .leaves("write(2, 6, 1), flush(2), blockAt(2, 6), kept(): behind 69, though not kept", "70 0",
                        volume -> {
                            Due.writeAndFlush(volume, 2, 6, 1);
                            return volume.blockAt(2, 6) + " " + volume.kept();
                        })
                .answers("cut(1, 0), and no crash comes,", 1, volume -> volume.cut(1, 0))
                .refuses("start()", Buddyfield::start);
    }

    // ---- a deletion of a file that is not open

    private static Buddyfield deletionEnded() {
        Buddyfield volume = fiveFiles();
        volume.crashBehind(2);
        volume.delete(26);
        return volume;
    }

    private static void endedDeletion(Edges edges) {
        edges.on(CRASH);
        new Moment(edges, "ahead of a deletion", PromisesMeetCrashEdges::fiveFiles)
                .leaves("crashBehind(2), delete(26)", "-1", volume -> {
                    volume.crashBehind(2);
                    return "" + volume.delete(26);
                })
                .answers("delete(26) without a crash", 1, volume -> volume.delete(26));
        Moment down = new Moment(edges, "behind the crash in a deletion", PromisesMeetCrashEdges::deletionEnded);
        stillThere(down);
        down.refuses("open(26)", volume -> volume.open(26))
                .refuses("create(26)", volume -> volume.create(26))
                .refusesAllWhileDown(1, 10, 90);
        edges.on(START);
        down.answers("start()", 1, Buddyfield::start);
        noLongerThere(new Moment(edges, "behind the start that ends a deletion",
                () -> started(deletionEnded())));
    }

    /** File 1, whose deletion has ended behind its second step. */
    private static void stillThere(Moment down) {
        down.answers("isDown()", true, Buddyfield::isDown)
                .answers("files()", 5, Buddyfield::files)
                .answers("listed()", 1, Buddyfield::listed)
                .answers("opens(1)", 0, volume -> volume.opens(1))
                .answers("free()", 115, Buddyfield::free)
                .answers("freeByFiles()", 115, Buddyfield::freeByFiles)
                .answers("reserved()", 0, Buddyfield::reserved)
                .answers("kept()", 0, Buddyfield::kept)
                .pieces(1, "29 14 7 3 1 0")
                .answers("isFree(34)", false, volume -> volume.isFree(34))
                .answers("isFree(35)", true, volume -> volume.isFree(35))
                .answers("blockAt(1, 2)", 34, volume -> volume.blockAt(1, 2))
                .answers("blockAt(1, 3)", Buddyfield.NONE, volume -> volume.blockAt(1, 3))
                .answers("extents(1)", 1, volume -> volume.extents(1))
                .answers("extent(1, 0)", 332, volume -> volume.extent(1, 0))
                .answers("average(1)", 3.0f, volume -> volume.average(1))
                .answers("fileOf(26)", Buddyfield.NONE, volume -> volume.fileOf(26))
                .answers("fileOf(10)", 0, volume -> volume.fileOf(10))
                .answers("leaves()", 2, Buddyfield::leaves)
                .answers("looks(26), which is in no leaf,", 2, volume -> volume.looks(26))
                .answers("looks(10)", 1, volume -> volume.looks(10));
    }

    /** File 1 is deleted, the others are as they were behind the crash. */
    private static void noLongerThere(Moment up) {
        up.answers("isDown()", false, Buddyfield::isDown)
                .answers("files()", 4, Buddyfield::files)
                .answers("listed()", 0, Buddyfield::listed)
                .answers("free()", 118, Buddyfield::free)
                .answers("freeByFiles()", 118, Buddyfield::freeByFiles)
                .pieces(1, "32 16 8 4 2 1")
                .answers("isFree(32)", true, volume -> volume.isFree(32))
                .noFile("opens(1)", volume -> volume.opens(1))
                .noFile("blockAt(1, 0)", volume -> volume.blockAt(1, 0))
                .noFile("extents(1)", volume -> volume.extents(1))
                .noFile("extent(1, 0)", volume -> volume.extent(1, 0))
                .noFile("average(1)", volume -> volume.average(1))
                .noFile("close(1)", volume -> volume.close(1))
                .noFile("write(1, 0, 1)", volume -> volume.write(1, 0, 1))
                .noFile("flush(1)", volume -> volume.flush(1))
                .noFile("cut(1, 0)", volume -> volume.cut(1, 0))
                .answers("fileOf(26)", Buddyfield.NONE, volume -> volume.fileOf(26))
                .answers("fileOf(58)", 3, volume -> volume.fileOf(58));
        up.refuses("open(26)", volume -> volume.open(26))
                .refuses("delete(26)", volume -> volume.delete(26))
                .answers("extent(2, 0)", 664, volume -> volume.extent(2, 0))
                .answers("extent(3, 0)", 496, volume -> volume.extent(3, 0))
                .answers("create(90)", 1, volume -> volume.create(90))
                .leaves("create(26), looks(26), leaves()", "1 2 2",
                        volume -> volume.create(26) + " " + volume.looks(26) + " " + volume.leaves());
    }

    // ---- a deletion that waits for the last close

    private static Buddyfield openAndDeleted() {
        Buddyfield volume = fiveFiles();
        volume.open(26);
        volume.delete(26);
        return volume;
    }

    private static Buddyfield closeEnded() {
        Buddyfield volume = openAndDeleted();
        volume.crashBehind(2);
        volume.close(1);
        return volume;
    }

    private static void endedClose(Edges edges) {
        edges.on(DELETED);
        new Moment(edges, "deleted, but open", PromisesMeetCrashEdges::openAndDeleted)
                .answers("files()", 5, Buddyfield::files)
                .answers("listed()", 1, Buddyfield::listed)
                .answers("opens(1)", 1, volume -> volume.opens(1))
                .answers("free()", 100, Buddyfield::free)
                .answers("freeByFiles()", 100, Buddyfield::freeByFiles)
                .answers("reserved()", 5, Buddyfield::reserved)
                .answers("kept()", 7, Buddyfield::kept)
                .answers("fileOf(26)", Buddyfield.NONE, volume -> volume.fileOf(26))
                .answers("extent(1, 0)", 1132, volume -> volume.extent(1, 0))
                .answers("flush(1)", 2, volume -> volume.flush(1))
                .answers("write(1, 11, 6)", 6, volume -> volume.write(1, 11, 6))
                .answers("close(1) without a crash", 0, volume -> volume.close(1))
                .leaves("crashBehind(2), close(1)", "-1", volume -> {
                    volume.crashBehind(2);
                    return "" + volume.close(1);
                })
                .leaves("create(26), fileOf(26), opens(1)", "5 5 1",
                        volume -> volume.create(26) + " " + volume.fileOf(26) + " " + volume.opens(1))
                .leaves("crash(), opens(1), files(), start(), files()", "0 5 1 4", volume -> {
                    volume.crash();
                    return volume.opens(1) + " " + volume.files() + " " + volume.start() + " " + volume.files();
                });
        edges.on(CRASH);
        Moment down = new Moment(edges, "behind the crash in the last close", PromisesMeetCrashEdges::closeEnded);
        stillThere(down);
        down.refusesAllWhileDown(1, 10, 90);
        edges.on(START);
        down.answers("start()", 1, Buddyfield::start);
        noLongerThere(new Moment(edges, "behind the start that ends a last close", () -> started(closeEnded())));
    }

    // ---- a cut of a file that is to be deleted

    /** The first step takes the places 10 and 9 alone, for 8 is below the size; it is the last one, too. */
    private static Buddyfield cutOfDeletedEnded() {
        Buddyfield volume = openAndDeleted();
        volume.crashBehind(1);
        volume.cut(1, 9);
        return volume;
    }

    private static void endedCutOfAFileToBeDeleted(Edges edges) {
        edges.on(STAYS_LISTED);
        new Moment(edges, "deleted, but open", PromisesMeetCrashEdges::openAndDeleted)
                .leaves("cut(1, 9), listed(), files(), opens(1)", "1 1 5 1", volume -> volume.cut(1, 9) + " "
                        + volume.listed() + " " + volume.files() + " " + volume.opens(1))
                .leaves("cut(1, 9), close(1), listed(), files(), free()", "1 0 0 4 116", volume -> volume.cut(1, 9)
                        + " " + volume.close(1) + " " + volume.listed() + " " + volume.files() + " " + volume.free())
                .leaves("crashBehind(1), cut(1, 9)", "-1", volume -> {
                    volume.crashBehind(1);
                    return "" + volume.cut(1, 9);
                });
        Moment down = new Moment(edges, "behind the crash in a cut of a file to be deleted",
                PromisesMeetCrashEdges::cutOfDeletedEnded);
        down.answers("isDown()", true, Buddyfield::isDown)
                .answers("listed()", 1, Buddyfield::listed)
                .answers("files()", 5, Buddyfield::files)
                .answers("opens(1)", 0, volume -> volume.opens(1))
                .answers("extent(1, 0)", 932, volume -> volume.extent(1, 0))
                .answers("free()", 109, Buddyfield::free)
                .answers("start()", 1, Buddyfield::start)
                .refusesAllWhileDown(1, 10, 90);
        noLongerThere(new Moment(edges, "behind the start that ends a cut of a file to be deleted",
                () -> started(cutOfDeletedEnded())));
    }

    // ---- several files on the list

    /** Files 0 and 3 are open and to be deleted, file 2 is being cut to 5, which has taken one place. */
    private static Buddyfield threeListed() {
        Buddyfield volume = fiveFiles();
        volume.open(10);
        volume.open(58);
        Due.writeAndFlush(volume, 0, 60, 4);
        volume.delete(58);
        volume.delete(10);
        volume.crashBehind(1);
        volume.cut(2, 5);
        return volume;
    }

    private static void crashWithSeveralListed(Edges edges) {
        edges.on(START);
        new Moment(edges, "two to be deleted and one being cut", PromisesMeetCrashEdges::threeListed)
                .answers("listed()", 3, Buddyfield::listed)
                .answers("files()", 5, Buddyfield::files)
                .answers("extent(0, 0)", 600400, volume -> volume.extent(0, 0))
                .answers("extent(2, 0)", 564, volume -> volume.extent(2, 0))
                .answers("free()", 104, Buddyfield::free)
                .answers("start()", 3, Buddyfield::start);
        new Moment(edges, "two deleted and one cut by a start", () -> started(threeListed()))
                .answers("listed()", 0, Buddyfield::listed)
                .answers("files()", 3, Buddyfield::files)
                .answers("free()", 112, Buddyfield::free)
                .answers("freeByFiles()", 112, Buddyfield::freeByFiles)
                .answers("extent(1, 0)", 1132, volume -> volume.extent(1, 0))
                .answers("extent(2, 0)", 564, volume -> volume.extent(2, 0))
                .noFile("opens(0)", volume -> volume.opens(0))
                .noFile("opens(3)", volume -> volume.opens(3))
                .leaves("create(10), create(58), create(90)", "0 3 5",
                        volume -> volume.create(10) + " " + volume.create(58) + " " + volume.create(90))
                .leaves("open(42), close(2), files()", "2 0 3",
                        volume -> volume.open(42) + " " + volume.close(2) + " " + volume.files())
                .leaves("crash(), start(), extent(2, 0)", "0 564", volume -> {
                    volume.crash();
                    return volume.start() + " " + volume.extent(2, 0);
                });
    }

    // ---- which step a told crash waits for

    private static void toldSteps(Edges edges) {
        edges.promise(9).on("Tells that a crash comes right behind some step from now on; "
                + "it takes the place of what was told so before.");
        new Moment(edges, "with a crash told for the fifth step", PromisesMeetCrashEdges::toldForTheFifth)
                .leaves("cut(3, 0), delete(26), isDown()", "1 1 false",
                        volume -> volume.cut(3, 0) + " " + volume.delete(26) + " " + volume.isDown())
                .leaves("cut(3, 0), delete(26), cut(2, 0), free()", "1 1 -1 126",
                        volume -> volume.cut(3, 0) + " " + volume.delete(26) + " " + volume.cut(2, 0)
                        + " " + volume.free())
                .leaves("delete(26), cut(3, 0), delete(42), close(2), close(2), start(), files()", "1 1 2 1 -1 1 3",
                        volume -> volume.delete(26) + " " + volume.cut(3, 0) + " " + volume.delete(42) + " "
                        + volume.close(2) + " " + volume.close(2) + " " + volume.start() + " " + volume.files())
                .leaves("cut(1, 10), crash(), start(), cut(1, 0), cut(2, 0), isDown()", "1 0 3 2 false", volume -> {
                    String first = "" + volume.cut(1, 10);
                    volume.crash();
                    return first + " " + volume.start() + " " + volume.cut(1, 0) + " " + volume.cut(2, 0)
                            + " " + volume.isDown();
                });
    }

    private static Buddyfield toldForTheFifth() {
        Buddyfield volume = fiveFiles();
        volume.crashBehind(5);
        return volume;
    }

    // ---- a crash behind each step in turn

    /**
     * File 1 in six extents of five, five, five, five, five and one places, each of the former a step of four
     * and one of one: 11 steps in all. The extents are apart by their places.
     */
    private static Buddyfield sixExtents() {
        Buddyfield volume = Volumes.named(10, 26, 42);
        Due.writeAndFlush(volume, 2, 0, 9);
        for (int first = 0; first < 35; first += 7) {
            Due.writeAndFlush(volume, 1, first, 5);
        }
        Due.writeAndFlush(volume, 1, 63, 1);
        volume.write(1, 40, 4);
        volume.open(42);
        return volume;
    }

    private static void eachStep(Edges edges) {
        // Step 1 takes the one place 63, and then each extent gives four places and one.
        int[] all = {0, 1, 5, 6, 10, 11, 15, 16, 20, 21, 25, 26};
        // Of the places 7 to 11 a cut to 9 takes three.
        int[] from9 = {0, 1, 5, 6, 10, 11, 15, 16, 19};
        edges.on(CRASH);
        for (int step = 1; step < all.length; step++) {
            int behind = step;
            edges.test("a deletion of 11 steps, ended behind step " + step, () -> endedBehind(behind, 0, true, all))
                    .test("a cut of 11 steps, ended behind step " + step, () -> endedBehind(behind, 0, false, all));
        }
        for (int step = 1; step < from9.length; step++) {
            int behind = step;
            edges.test("a cut to 9, in the midst of an extent, of 8 steps, ended behind step " + step,
                    () -> endedBehind(behind, 9, false, from9));
        }
        edges.on(START)
                .test("behind it all is as if no crash had come in the deletion", () -> asWithoutACrash(11, 0, true))
                .test("behind it all is as if no crash had come in the cut", () -> asWithoutACrash(11, 0, false))
                .test("behind it all is as if no crash had come in the cut to 9", () -> asWithoutACrash(8, 9, false));
    }

    private static int end(Buddyfield volume, int size, boolean deletes) {
        return deletes ? volume.delete(26) : volume.cut(1, size);
    }

    private static void endedBehind(int step, int size, boolean deletes, int[] gone) {
        Buddyfield volume = sixExtents();
        volume.crashBehind(step);
        Due.same("the call", end(volume, size, deletes), Buddyfield.NONE);
        Due.same("isDown", volume.isDown(), true);
        Due.same("listed", volume.listed(), 1);
        Due.same("files", volume.files(), 3);
        Due.same("fileOf", volume.fileOf(26), deletes ? Buddyfield.NONE : 1);
        Due.same("mapped", mapped(volume, 1), 26 - gone[step]);
        Due.same("free", volume.free(), 128 - 9 - 26 + gone[step]);
        Due.same("freeByFiles", volume.freeByFiles(), 128 - 9 - 26 + gone[step]);
    }

    private static void asWithoutACrash(int steps, int size, boolean deletes) {
        for (int step = 1; step <= steps; step++) {
            Buddyfield crashed = sixExtents();
            crashed.crashBehind(step);
            end(crashed, size, deletes);
            Due.same("start", crashed.start(), 1);
            Buddyfield other = sixExtents();
            Due.same("the call", end(other, size, deletes), deletes ? 1 : steps);
            other.crash();
            Due.same("start", other.start(), 0);
            Due.same("state, ended behind step " + step, Due.stateOf(crashed), Due.stateOf(other));
        }
    }

    private static int mapped(Buddyfield volume, int file) {
        int count = 0;
        for (int place = 0; place < 64; place++) {
            count += volume.blockAt(file, place) >= 0 ? 1 : 0;
        }
        return count;
    }
}
