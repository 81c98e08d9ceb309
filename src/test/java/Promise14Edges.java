/** Promise 14. */
final class Promise14Edges {

    private Promise14Edges() {
    }

    static void tests(Edges edges) {
        edges.promise(14);
        edges.on("Returns how many files are on the list.")
                .test("0 at first", () -> Due.same("listed", new Buddyfield().listed(), 0))
                .test("1 to 16, the most, and back to 0", Promise14Edges::upTo16)
                .test("0 behind a cut", Promise14Edges::behindACut)
                .test("0 behind a delete of a closed file", Promise14Edges::behindADelete)
                .test("a file that is cut and then deleted is there once", Promise14Edges::once)
                .test("a cut does not take off one to be deleted", Promise14Edges::cutKeepsIt)
                .test("a close but the last does not take it off", Promise14Edges::closeKeepsIt)
                .test("one that a crash has left being cut", Promise14Edges::beingCut)
                .test("a start leaves 0", Promise14Edges::started);
    }

    private static void upTo16() {
        Buddyfield volume = Volumes.full();
        for (int file = 0; file < 16; file++) {
            volume.open(16 * file);
            volume.delete(16 * file);
            Due.same("listed", volume.listed(), file + 1);
        }
        for (int file = 15; file >= 0; file--) {
            volume.close(file);
            Due.same("listed", volume.listed(), file);
        }
    }

    private static void behindACut() {
        Buddyfield volume = Due.withFiles(1);
        Due.writeAndFlush(volume, 0, 0, 9);
        volume.cut(0, 3);
        Due.same("listed", volume.listed(), 0);
    }

    private static void behindADelete() {
        Buddyfield volume = Due.withFiles(1);
        Due.writeAndFlush(volume, 0, 0, 9);
        volume.delete(0);
        Due.same("listed", volume.listed(), 0);
    }

    private static void once() {
        Buddyfield volume = Due.withFiles(1);
        volume.open(0);
        Due.writeAndFlush(volume, 0, 0, 9);
        volume.delete(0);
        volume.crashBehind(1);
        volume.cut(0, 3);
        Due.same("listed", volume.listed(), 1);
        Due.same("start", volume.start(), 1);
    }

    private static void cutKeepsIt() {
        Buddyfield volume = Volumes.busy();
        volume.crashBehind(Buddyfield.NONE);
        for (int size : new int[] {64, 3, 0, 0}) {
            volume.cut(3, size);
            Due.same("cut to " + size, volume.listed(), 1);
        }
    }

    private static void closeKeepsIt() {
        Buddyfield volume = Due.withFiles(1);
        volume.open(0);
        volume.open(0);
        volume.delete(0);
        volume.close(0);
        Due.same("once open", volume.listed(), 1);
        volume.close(0);
        Due.same("not open", volume.listed(), 0);
    }

    private static void beingCut() {
        Buddyfield volume = Due.withFiles(2);
        Due.writeAndFlush(volume, 1, 0, 9);
        volume.crashBehind(1);
        volume.cut(1, 0);
        Due.same("listed", volume.listed(), 1);
    }

    private static void started() {
        Buddyfield volume = Volumes.down();
        Due.same("down", volume.listed(), 2);
        volume.start();
        Due.same("started", volume.listed(), 0);
    }
}
