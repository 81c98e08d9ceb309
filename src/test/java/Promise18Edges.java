/** Promises 18 and 19: how many blocks are reserved, and how many are kept. */
final class Promise18Edges {

    private Promise18Edges() {
    }

    static void tests(Edges edges) {
        reserved(edges);
        kept(edges);
    }

    private static void reserved(Edges edges) {
        edges.promise(18).on("Returns how many blocks are reserved.")
                .test("0 at first", () -> Due.same("reserved", new Buddyfield().reserved(), 0))
                .test("1", Promise18Edges::one)
                .test("128, the most", () -> Due.same("reserved", Volumes.leaving(0).reserved(), 128))
                .test("of all files", () -> Due.same("reserved", Volumes.busy().reserved(), 8))
                .test("of file 0 and of file 15", Promise18Edges::firstAndLastFile)
                .test("none of those that a flush has mapped", Promise18Edges::flushed)
                .test("none of those that a cut has dropped", Promise18Edges::cut)
                .test("none of a deleted file", Promise18Edges::deleted)
                .test("those of an open file that is to be deleted", Promise18Edges::toBeDeleted)
                .test("0 behind a crash", () -> Due.same("reserved", Volumes.down().reserved(), 0));
        edges.on("At each place of a file there is nothing, a reserved block, or a mapped one.")
                .test("nothing, reserved, mapped, and nothing again", Promise18Edges::oneAfterTheOther);
    }

    private static void kept(Edges edges) {
        edges.promise(19).on("Returns how many blocks are kept.")
                .test("0 at first", () -> Due.same("kept", new Buddyfield().kept(), 0))
                .test("1 for 3 places", () -> keptFor(3, 1))
                .test("7, the most of a file, for 9 places", () -> keptFor(9, 7))
                .test("0 for 16 places", () -> keptFor(16, 0))
                .test("of all files: 56, 7 for each of eight", Promise18Edges::mostOfAll)
                .test("of file 0 and of file 15", Promise18Edges::firstAndLastFileKept)
                .test("1 less with each that is mapped, down to 0", Promise18Edges::downTo0)
                .test("0 behind a cut", Promise18Edges::cutToo)
                .test("0 behind a delete", Promise18Edges::deletedToo)
                .test("0 behind a crash", () -> Due.same("kept", Volumes.down().kept(), 0));
    }

    private static void one() {
        Buddyfield volume = Due.withFiles(1);
        volume.write(0, 63, 1);
        Due.same("reserved", volume.reserved(), 1);
    }

    private static void firstAndLastFile() {
        Buddyfield volume = Due.withFiles(16);
        volume.write(0, 0, 2);
        Due.same("reserved", volume.reserved(), 2);
        volume.write(15, 0, 3);
        Due.same("reserved", volume.reserved(), 5);
    }

    private static void firstAndLastFileKept() {
        Buddyfield volume = Due.withFiles(16);
        Due.writeAndFlush(volume, 0, 0, 3);
        Due.same("kept", volume.kept(), 1);
        Due.writeAndFlush(volume, 15, 0, 5);
        Due.same("kept", volume.kept(), 4);
        Due.same("freeByFiles", volume.freeByFiles(), 116);
    }

    private static void flushed() {
        Buddyfield volume = Due.withFiles(2);
        volume.write(0, 0, 10);
        volume.write(1, 0, 3);
        volume.flush(0);
        Due.same("reserved", volume.reserved(), 3);
        volume.flush(1);
        Due.same("reserved", volume.reserved(), 0);
    }

    private static void cut() {
        Buddyfield volume = Due.withFiles(1);
        volume.write(0, 0, 64);
        volume.cut(0, 63);
        Due.same("cut to 63", volume.reserved(), 63);
        volume.cut(0, 1);
        Due.same("cut to 1", volume.reserved(), 1);
        volume.cut(0, 0);
        Due.same("cut to 0", volume.reserved(), 0);
    }

    private static void deleted() {
        Buddyfield volume = Due.withFiles(2);
        volume.write(0, 0, 10);
        volume.write(1, 0, 3);
        volume.delete(0);
        Due.same("reserved", volume.reserved(), 3);
    }

    private static void toBeDeleted() {
        Buddyfield volume = Due.withFiles(1);
        volume.open(0);
        volume.write(0, 0, 10);
        volume.delete(0);
        Due.same("open", volume.reserved(), 10);
        volume.close(0);
        Due.same("closed", volume.reserved(), 0);
    }

    private static void oneAfterTheOther() {
        Buddyfield volume = Due.withFiles(1);
        Due.same("nothing", volume.blockAt(0, 63), -1);
        volume.write(0, 63, 1);
        Due.same("reserved", volume.blockAt(0, 63), -2);
        volume.flush(0);
        Due.same("mapped", volume.blockAt(0, 63), 0);
        volume.cut(0, 63);
        Due.same("nothing", volume.blockAt(0, 63), -1);
        Due.same("reserved", volume.reserved(), 0);
    }

    private static void keptFor(int places, int want) {
        Buddyfield volume = Due.withFiles(1);
        Due.writeAndFlush(volume, 0, 0, places);
        Due.same("kept", volume.kept(), want);
    }

    private static void mostOfAll() {
        Buddyfield volume = Due.withFiles(8);
        for (int file = 0; file < 8; file++) {
            Due.writeAndFlush(volume, file, 0, 9);
            Due.same("kept", volume.kept(), 7 * (file + 1));
        }
        Due.same("free", volume.free(), 0);
    }

    private static void downTo0() {
        Buddyfield volume = Due.withFiles(1);
        Due.writeAndFlush(volume, 0, 0, 9);
        for (int place = 9; place < 16; place++) {
            Due.writeAndFlush(volume, 0, place, 1);
            Due.same("kept", volume.kept(), 15 - place);
        }
        Due.same("free", volume.free(), 112);
    }

    private static void cutToo() {
        Buddyfield volume = Due.withFiles(1);
        Due.writeAndFlush(volume, 0, 0, 9);
        volume.cut(0, 9);
        Due.same("kept", volume.kept(), 0);
    }

    private static void deletedToo() {
        Buddyfield volume = Due.withFiles(1);
        Due.writeAndFlush(volume, 0, 0, 9);
        volume.delete(0);
        Due.same("kept", volume.kept(), 0);
    }
}
