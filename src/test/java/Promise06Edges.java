/** Promise 6, and what is left for it. */
final class Promise06Edges {

    private Promise06Edges() {
    }

    static void tests(Edges edges) {
        edges.promise(6);
        edges.on("Writes some places.")
                .test("just those", Promise06Edges::justThose)
                .test("while down they are not possible, behind the start they are", Promise06Edges::behindStart);
        edges.on("`file`: a file")
                .test("file 0 is taken", () -> Due.same("write", Volumes.full().write(0, 20, 3), 3))
                .test("file 15 is taken", () -> Due.same("write", Volumes.full().write(15, 20, 3), 3));
        edges.on("Throws `IndexOutOfBoundsException` if there is no such file")
                .noSuchFile((volume, file) -> volume.write(file, 0, 1));
        places(edges);
        edges.on("Returns how many blocks are reserved by that.")
                .test("all that were asked", () -> Due.same("write", Due.withFiles(1).write(0, 7, 9), 9))
                .test("0 if all places are reserved", () -> writtenAgain(10, 4, 0))
                .test("all but those that are reserved", () -> writtenAgain(8, 8, 4))
                .test("one ahead of those that are reserved", () -> writtenAgain(9, 1, 1))
                .test("one behind those that are reserved", () -> writtenAgain(14, 1, 1))
                .test("the first one of those that are reserved", () -> writtenAgain(10, 1, 0))
                .test("the last one of those that are reserved", () -> writtenAgain(13, 1, 0));
        edges.on("Writing reserves a block for each place that has nothing.")
                .test("mapped places stay mapped", Promise06Edges::mappedPlacesStay)
                .test("no block is chosen", Promise06Edges::noBlockIsChosen)
                .test("no block for mapped places when none is left", Promise06Edges::nothingNeeded);
        whatIsLeft(edges);
        edges.on("if the volume is down, for all methods that are named as those that change something")
                .badState("down", Volumes::down, volume -> volume.write(0, 0, 1))
                .badState("down, and a place that is mapped", Volumes::down, volume -> volume.write(0, 4, 1));
        edges.on("If several apply, the one that is named first in the throws clause is thrown.")
                .noSuchFileWhileDown((volume, file) -> volume.write(file, 0, 1))
                .outOfBounds("no such file, and first -1", Volumes::busy, volume -> volume.write(8, -1, 1))
                .outOfBounds("no such file, and many 0", Volumes::busy, volume -> volume.write(8, 0, 0))
                .outOfBounds("no such file, first and many out of range, and down", Volumes::down,
                        volume -> volume.write(16, 64, 65))
                .badArgument("first 64, and down", Volumes::down, volume -> volume.write(0, 64, 1))
                .badArgument("many 0, and down", Volumes::down, volume -> volume.write(0, 0, 0))
                .badArgument("place 64, and none left", Volumes::allMapped, volume -> volume.write(2, 63, 2));
    }

    private static void places(Edges edges) {
        edges.on("`first`: 0 to 63: the first place")
                .test("0, the smallest, is taken", () -> writtenAlone(0, 1))
                .test("63, the greatest, is taken", () -> writtenAlone(63, 1));
        edges.on("`many`: 1 to 64: how many places, of which none is above 63")
                .test("1, the smallest, is taken", () -> writtenAlone(30, 1))
                .test("64, the greatest, is taken from 0 on", () -> writtenAlone(0, 64))
                .test("63 from 1 on end at place 63", () -> writtenAlone(1, 63))
                .test("2 from 62 on end at place 63", () -> writtenAlone(62, 2));
        edges.on("Throws `IllegalArgumentException` if first or many is out of range");
        int[][] refused = {{-1, 1}, {64, 1}, {Integer.MIN_VALUE, 1}, {Integer.MAX_VALUE, 1}, {-1, 64}, {-1, 2},
            {0, 0}, {0, -1}, {0, 65}, {0, Integer.MIN_VALUE}, {0, Integer.MAX_VALUE},
            {1, 64}, {62, 3}, {63, 2}, {63, 64}, {63, 0}, {63, -1}, {63, Integer.MAX_VALUE},
            {Integer.MAX_VALUE, Integer.MAX_VALUE}, {Integer.MIN_VALUE, Integer.MIN_VALUE}, {64, 0}};
        for (int[] each : refused) {
            edges.badArgument("first " + each[0] + ", many " + each[1], Volumes::busy,
                    volume -> volume.write(4, each[0], each[1]));
        }
    }

    private static void whatIsLeft(Edges edges) {
        edges.on("what is left is how many blocks are free, less how many are reserved")
                .test("128 are left at first, and can be reserved", Promise06Edges::allAreReserved)
                .test("the last one", () -> Due.same("write", Volumes.leaving(1).write(0, 0, 1), 1))
                .badState("one behind the last one", () -> Volumes.leaving(0), volume -> volume.write(0, 0, 1))
                .badState("two of one", () -> Volumes.leaving(1), volume -> volume.write(0, 0, 2))
                .badState("none left, all blocks mapped", Volumes::allMapped, volume -> volume.write(2, 0, 1))
                .test("a block that a cut frees is left again", Promise06Edges::leftAgain)
                .test("a reserved block that a cut drops is left again", Promise06Edges::leftAgainFromReserved);
        edges.on("If less is left than that needs, all blocks that are kept are free first, "
                + "but only if enough is left then.")
                .test("as much is left as it needs: they stay kept", () -> writtenTight(40, 10))
                .test("less by one is left: all are free", () -> writtenTight(41, 0))
                .test("enough with all that are kept, and none is over", () -> writtenTight(50, 0))
                .badState("less by one also with all that are kept: they stay kept", () -> tight(0),
                        volume -> volume.write(3, 0, 51))
                .test("none left, and nothing needed: they stay kept", Promise06Edges::keptStayIfNothingIsNeeded)
                .test("those of the file itself and of the others", Promise06Edges::allFilesKept)
                .test("those of file 0 and of file 15", Promise06Edges::firstAndLastFileKept)
                .test("they are not mapped any more by a later flush", Promise06Edges::freedAreNotMapped);
        edges.on("Throws `IllegalStateException` if less is left than that needs, also without blocks that are kept")
                .badState("64 of 63", () -> Volumes.leaving(63), volume -> volume.write(0, 0, 64))
                .test("64 of 64", () -> Due.same("write", Volumes.leaving(64).write(0, 0, 64), 64))
                .badState("one of none, with blocks reserved for the file itself", Promise06Edges::ownReserved,
                        volume -> volume.write(0, 5, 1))
                .badState("11 of none and 10 that are kept", () -> tight(40), volume -> volume.write(3, 40, 11))
                .test("10 of none and 10 that are kept", Promise06Edges::tenThatAreKept);
    }

    /**
     * Four files: 5 places and 3 kept blocks, 9 places and 7 kept blocks, 64 reserved places, and the
     * file 3 with as many reserved as told; so 40 less those are left, and 10 are kept.
     */
    private static Buddyfield tight(int reserved) {
        Buddyfield volume = Due.withFiles(4);
        Due.writeAndFlush(volume, 0, 0, 5);
        Due.writeAndFlush(volume, 1, 0, 9);
        volume.write(2, 0, 64);
        if (reserved > 0) {
            volume.write(3, 0, reserved);
        }
        return volume;
    }

    private static void writtenTight(int many, int kept) {
        Buddyfield volume = tight(0);
        Due.same("kept", volume.kept(), 10);
        Due.same("write", volume.write(3, 0, many), many);
        Due.same("kept", volume.kept(), kept);
        Due.same("reserved", volume.reserved(), 64 + many);
        Due.same("free", volume.free(), 114 - kept);
        Due.same("block 5", volume.isFree(5), kept == 0);
        Due.same("block 47", volume.isFree(47), kept == 0);
    }

    private static void justThose() {
        Buddyfield volume = Due.withFiles(2);
        volume.write(0, 10, 3);
        Due.same("places", Due.blocks(volume, 0, 9, 5), "-1 -2 -2 -2 -1");
        Due.same("another file", Due.blocks(volume, 1, 9, 5), "-1 -1 -1 -1 -1");
    }

    private static void behindStart() {
        Buddyfield volume = Due.withFiles(1);
        volume.write(0, 0, 3);
        volume.crash();
        volume.start();
        Due.same("what was reserved is to be written anew", volume.write(0, 0, 3), 3);
    }

    private static void writtenAlone(int first, int many) {
        Buddyfield volume = Due.withFiles(1);
        Due.same("write", volume.write(0, first, many), many);
        Due.same("reserved", volume.reserved(), many);
        for (int place = 0; place < 64; place++) {
            boolean within = place >= first && place < first + many;
            Due.same("place " + place, volume.blockAt(0, place), within ? Buddyfield.RESERVED : Buddyfield.NONE);
        }
    }

    private static void writtenAgain(int first, int many, int want) {
        Buddyfield volume = Due.withFiles(1);
        volume.write(0, 10, 4);
        Due.same("write", volume.write(0, first, many), want);
        Due.same("reserved", volume.reserved(), 4 + want);
    }

    private static void mappedPlacesStay() {
        Buddyfield volume = Due.withFiles(1);
        Due.writeAndFlush(volume, 0, 10, 4);
        Due.same("write", volume.write(0, 9, 6), 2);
        Due.same("places", Due.blocks(volume, 0, 9, 6), "-2 0 1 2 3 -2");
        Due.same("reserved", volume.reserved(), 2);
    }

    private static void noBlockIsChosen() {
        Buddyfield volume = Due.withFiles(1);
        volume.write(0, 0, 64);
        Due.same("free", volume.free(), 128);
        Due.same("freeByFiles", volume.freeByFiles(), 128);
        Due.same("pieces", volume.pieces(0, 5), 1);
        Due.same("kept", volume.kept(), 0);
    }

    private static void nothingNeeded() {
        Buddyfield volume = Volumes.allMapped();
        Due.same("free", volume.free(), 0);
        Due.same("write", volume.write(0, 0, 64), 0);
    }

    private static void allAreReserved() {
        Buddyfield volume = Due.withFiles(2);
        Due.same("write", volume.write(0, 0, 64), 64);
        Due.same("write", volume.write(1, 0, 64), 64);
        Due.same("reserved", volume.reserved(), 128);
        Due.same("free", volume.free(), 128);
    }

    private static void leftAgain() {
        Buddyfield volume = Volumes.allMapped();
        volume.cut(0, 63);
        Due.same("write", volume.write(2, 0, 1), 1);
        Due.badState(volume, "no more", () -> volume.write(2, 1, 1));
    }

    private static void leftAgainFromReserved() {
        Buddyfield volume = Volumes.leaving(0);
        volume.cut(1, 63);
        Due.same("write", volume.write(0, 0, 1), 1);
        Due.badState(volume, "no more", () -> volume.write(0, 1, 1));
    }

    private static void keptStayIfNothingIsNeeded() {
        Buddyfield volume = tight(40);
        Due.same("write", volume.write(3, 0, 40), 0);
        Due.same("kept", volume.kept(), 10);
    }

    private static void allFilesKept() {
        Buddyfield volume = tight(40);
        Due.same("write", volume.write(1, 20, 1), 1);
        Due.same("kept", volume.kept(), 0);
        for (int block : new int[] {5, 6, 7, 41, 42, 43, 44, 45, 46, 47}) {
            Due.same("block " + block, volume.isFree(block), true);
        }
        Due.same("block 4 is mapped", volume.isFree(4), false);
        Due.same("block 40 is mapped", volume.isFree(40), false);
    }

    private static void firstAndLastFileKept() {
        Buddyfield volume = Due.withFiles(16);
        Due.writeAndFlush(volume, 0, 0, 5);
        Due.writeAndFlush(volume, 15, 0, 5);
        volume.write(1, 0, 64);
        volume.write(2, 0, 48);
        Due.same("kept", volume.kept(), 6);
        Due.same("write", volume.write(3, 0, 1), 1);
        Due.same("kept", volume.kept(), 0);
        Due.same("free", volume.free(), 118);
        Due.same("left", volume.write(3, 1, 5), 5);
    }

    /** Block 5 was kept for place 5 of file 0; free again, it goes to file 2, which is flushed first. */
    private static void freedAreNotMapped() {
        Buddyfield volume = Due.withFiles(5);
        Due.writeAndFlush(volume, 0, 0, 5);
        volume.write(2, 0, 64);
        volume.write(3, 0, 56);
        volume.write(4, 0, 1);
        Due.same("kept", volume.kept(), 0);
        Due.same("flush", volume.flush(4), 1);
        Due.same("block 5", volume.blockAt(4, 0), 5);
        Due.same("write", volume.write(0, 5, 1), 1);
        Due.same("flush", volume.flush(0), 1);
        Due.same("block 6", volume.blockAt(0, 5), 6);
    }

    private static Buddyfield ownReserved() {
        Buddyfield volume = Volumes.leaving(5);
        volume.write(0, 0, 5);
        return volume;
    }

    private static void tenThatAreKept() {
        Buddyfield volume = tight(40);
        Due.same("write", volume.write(3, 40, 10), 10);
        Due.same("kept", volume.kept(), 0);
        Due.same("reserved", volume.reserved(), volume.free());
    }
}
