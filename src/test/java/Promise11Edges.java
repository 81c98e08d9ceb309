/** Promise 11: what a start finishes. */
final class Promise11Edges {

    private Promise11Edges() {
    }

    static void tests(Edges edges) {
        edges.promise(11);
        edges.on("Starts the volume.")
                .test("it is up, and calls are possible", Promise11Edges::up)
                .test("no file is open behind it", Promise11Edges::noFileIsOpen);
        edges.on("Returns how many files were on the list.")
                .test("0", Promise11Edges::emptyList)
                .test("1, being cut", Promise11Edges::oneBeingCut)
                .test("1, being cut, with all its steps done", Promise11Edges::oneBehindItsLastStep)
                .test("1, to be deleted", Promise11Edges::oneToBeDeleted)
                .test("2, one of each kind", () -> Due.same("start", Volumes.down().start(), 2))
                .test("16, all to be deleted", Promise11Edges::allToBeDeleted);
        edges.on("Throws `IllegalStateException` if it is not down")
                .badState("a new volume", Buddyfield::new, Buddyfield::start)
                .badState("a busy one, with files on the list and a crash told", Volumes::busy, Buddyfield::start)
                .badState("started before", Promise11Edges::started, Buddyfield::start);
        edges.on("With a start all files on the list, by rising numbers, are cut to their sizes, or deleted, "
                + "and are off the list.")
                .test("cut to size 0: the file stays", () -> cutTo(0))
                .test("cut to size 1", () -> cutTo(1))
                .test("cut to size 11, ahead of the step that came", () -> cutTo(11))
                .test("cut to size 12, where the step that came has ended", () -> cutTo(12))
                .test("deleted: its number and blocks are there again", Promise11Edges::numberAgain)
                .test("off the list", Promise11Edges::offTheList)
                .test("file 0 and file 15", Promise11Edges::firstAndLastFile)
                .test("files that are not on the list stay", Promise11Edges::othersStay)
                .test("a second crash and start find nothing to do", Promise11Edges::nothingTheSecondTime);
    }

    private static Buddyfield started() {
        Buddyfield volume = Volumes.down();
        volume.start();
        return volume;
    }

    private static void up() {
        Buddyfield volume = started();
        Due.same("isDown", volume.isDown(), false);
        Due.same("create", volume.create(48), 3);
        Due.same("write", Due.writeAndFlush(volume, 3, 0, 2), 2);
        Due.same("cut", volume.cut(3, 0), 1);
    }

    private static void noFileIsOpen() {
        Buddyfield volume = started();
        Due.same("opens", volume.opens(1), 0);
        Due.badState(volume, "close", () -> volume.close(1));
    }

    private static void emptyList() {
        Buddyfield volume = Due.withFiles(16);
        volume.crash();
        Due.same("start", volume.start(), 0);
        Due.same("files", volume.files(), 16);
    }

    private static void oneBeingCut() {
        Buddyfield volume = Due.withFiles(3);
        Due.writeAndFlush(volume, 2, 0, 8);
        volume.crashBehind(1);
        volume.cut(2, 0);
        Due.same("start", volume.start(), 1);
        Due.same("files", volume.files(), 3);
    }

    private static void oneBehindItsLastStep() {
        Buddyfield volume = Due.withFiles(3);
        Due.writeAndFlush(volume, 2, 0, 8);
        volume.crashBehind(2);
        volume.cut(2, 0);
        Due.same("free", volume.free(), 128);
        Due.same("start", volume.start(), 1);
    }

    private static void oneToBeDeleted() {
        Buddyfield volume = Due.withFiles(3);
        volume.open(2);
        volume.delete(2);
        volume.crash();
        Due.same("start", volume.start(), 1);
        Due.same("files", volume.files(), 2);
    }

    private static void allToBeDeleted() {
        Buddyfield volume = Volumes.full();
        for (int file = 0; file < 16; file++) {
            volume.open(16 * file);
            volume.delete(16 * file);
        }
        Due.same("listed", volume.listed(), 16);
        volume.crash();
        Due.same("start", volume.start(), 16);
        Due.same("files", volume.files(), 0);
        Due.same("listed", volume.listed(), 0);
        Due.same("free", volume.free(), 128);
        Due.same("create", volume.create(1), 0);
    }

    /** 16 places, and a crash behind the step that leaves 12. */
    private static void cutTo(int size) {
        Buddyfield volume = Due.withFiles(1);
        Due.writeAndFlush(volume, 0, 0, 16);
        volume.crashBehind(1);
        volume.cut(0, size);
        Due.same("free", volume.free(), 116);
        volume.start();
        Due.same("free", volume.free(), 128 - size);
        for (int place = 0; place < 16; place++) {
            Due.same("place " + place, volume.blockAt(0, place), place < size ? place : Buddyfield.NONE);
        }
        Due.same("files", volume.files(), 1);
        Due.same("fileOf", volume.fileOf(0), 0);
    }

    private static void numberAgain() {
        Buddyfield volume = started();
        Due.outOfBounds(volume, "no such file", () -> volume.opens(3));
        Due.same("files", volume.files(), 7);
        Due.same("block 96", volume.isFree(96), true);
        Due.same("create", volume.create(80), 3);
        Due.same("nothing of the file that had the number", volume.extents(3), 0);
        volume.open(80);
        Due.same("the new file is not to be deleted", volume.close(3), 0);
        Due.same("files", volume.files(), 8);
    }

    private static void offTheList() {
        Buddyfield volume = Volumes.down();
        Due.same("listed", volume.listed(), 2);
        volume.start();
        Due.same("listed", volume.listed(), 0);
    }

    private static void firstAndLastFile() {
        Buddyfield volume = Volumes.full();
        volume.open(240);
        volume.delete(240);
        volume.crashBehind(1);
        volume.cut(0, 0);
        Due.same("listed", volume.listed(), 2);
        Due.same("start", volume.start(), 2);
        Due.same("files", volume.files(), 15);
        Due.same("file 0 is still there", volume.fileOf(0), 0);
        Due.same("create", volume.create(240), 15);
    }

    private static void othersStay() {
        Buddyfield volume = started();
        Due.same("file 0", volume.extent(0, 0), 500);
        Due.same("file 2", volume.extents(2), 0);
        Due.same("free", volume.free(), 123);
        Due.same("fileOf 35", volume.fileOf(35), 7);
    }

    private static void nothingTheSecondTime() {
        Buddyfield volume = started();
        String before = Due.stateOf(volume);
        volume.crash();
        Due.same("start", volume.start(), 0);
        Due.same("state", Due.stateOf(volume), before);
    }
}
