/** Promise 22. */
final class Promise22Edges {

    private Promise22Edges() {
    }

    static void tests(Edges edges) {
        edges.promise(22);
        edges.on("Returns the block at a place of a file.")
                .test("0, the smallest block", Promise22Edges::block0)
                .test("127, the greatest block", Promise22Edges::block127)
                .test("that of the file asked for", Promise22Edges::ofThatFile);
        edges.on("`file`: a file")
                .test("file 0", () -> Due.same("blockAt", Volumes.full().blockAt(0, 0), 0))
                .test("file 15", () -> Due.same("blockAt", Volumes.full().blockAt(15, 15), 99));
        edges.on("Throws `IndexOutOfBoundsException` if there is no such file")
                .noSuchFile((volume, file) -> volume.blockAt(file, 0))
                .noSuchFileWhileDown((volume, file) -> volume.blockAt(file, 0));
        edges.on("`place`: 0 to 63")
                .test("0, the smallest", () -> placeDue(0))
                .test("63, the greatest", () -> placeDue(63));
        edges.on("Throws `IllegalArgumentException` if place is out of range");
        for (int place : new int[] {-1, 64, Integer.MIN_VALUE, Integer.MAX_VALUE}) {
            edges.badArgument("place " + place, Volumes::busy, volume -> volume.blockAt(0, place))
                    .badArgument("place " + place + ", and down", Volumes::down, volume -> volume.blockAt(0, place));
        }
        edges.on("If several apply, the one that is named first in the throws clause is thrown.")
                .outOfBounds("no such file, and place 64", Volumes::busy, volume -> volume.blockAt(8, 64))
                .outOfBounds("no such file, and place -1", Volumes::full, volume -> volume.blockAt(16, -1));
        edges.on("Returns the block, RESERVED, or NONE if there is nothing.")
                .test("NONE at all places of a new file", Promise22Edges::newFile)
                .test("NONE at the places beside the written ones", Promise22Edges::besideWritten)
                .test("NONE at a place for which a block is kept", Promise22Edges::keptPlace)
                .test("NONE at a place that was cut", Promise22Edges::cutPlace)
                .test("NONE at a place that was reserved when a crash came", Promise22Edges::crashedPlace);
    }

    private static void block0() {
        Buddyfield volume = Due.withFiles(1);
        Due.writeAndFlush(volume, 0, 63, 1);
        Due.same("blockAt", volume.blockAt(0, 63), 0);
    }

    private static void block127() {
        Buddyfield volume = Due.withFiles(4);
        Due.writeAndFlush(volume, 3, 0, 32);
        Due.same("blockAt", volume.blockAt(3, 31), 127);
    }

    private static void ofThatFile() {
        Buddyfield volume = Due.withFiles(4);
        for (int file = 0; file < 4; file++) {
            Due.writeAndFlush(volume, file, 5, 1);
        }
        for (int file = 0; file < 4; file++) {
            Due.same("blockAt", volume.blockAt(file, 5), 32 * file);
        }
    }

    private static void placeDue(int place) {
        Buddyfield volume = Due.withFiles(2);
        Due.same("nothing", volume.blockAt(1, place), Buddyfield.NONE);
        volume.write(1, place, 1);
        Due.same("reserved", volume.blockAt(1, place), Buddyfield.RESERVED);
        volume.flush(1);
        Due.same("mapped", volume.blockAt(1, place), 32);
    }

    private static void newFile() {
        Buddyfield volume = Due.withFiles(1);
        for (int place = 0; place < 64; place++) {
            Due.same("place " + place, volume.blockAt(0, place), Buddyfield.NONE);
        }
    }

    private static void besideWritten() {
        Buddyfield volume = Due.withFiles(1);
        volume.write(0, 1, 62);
        Due.same("place 0", volume.blockAt(0, 0), Buddyfield.NONE);
        Due.same("place 1", volume.blockAt(0, 1), Buddyfield.RESERVED);
        Due.same("place 62", volume.blockAt(0, 62), Buddyfield.RESERVED);
        Due.same("place 63", volume.blockAt(0, 63), Buddyfield.NONE);
    }

    private static void keptPlace() {
        Buddyfield volume = Due.withFiles(1);
        Due.writeAndFlush(volume, 0, 0, 3);
        Due.same("kept", volume.kept(), 1);
        Due.same("place 3", volume.blockAt(0, 3), Buddyfield.NONE);
    }

    private static void cutPlace() {
        Buddyfield volume = Due.withFiles(1);
        Due.writeAndFlush(volume, 0, 0, 64);
        volume.cut(0, 63);
        Due.same("place 63", volume.blockAt(0, 63), Buddyfield.NONE);
        Due.same("place 62", volume.blockAt(0, 62), 62);
    }

    private static void crashedPlace() {
        Buddyfield volume = Due.withFiles(1);
        volume.write(0, 0, 64);
        volume.crash();
        Due.same("place 0", volume.blockAt(0, 0), Buddyfield.NONE);
        Due.same("place 63", volume.blockAt(0, 63), Buddyfield.NONE);
    }
}
