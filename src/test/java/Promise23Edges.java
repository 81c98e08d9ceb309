/** Promises 23 to 25: how many extents there are, what one is, and their average. */
final class Promise23Edges {

    private Promise23Edges() {
    }

    static void tests(Edges edges) {
        extents(edges);
        extent(edges);
        average(edges);
    }

    private static void extents(Edges edges) {
        edges.promise(23);
        edges.on("Returns how many extents a file has.").test("not those of another file", Promise23Edges::notOfOthers);
        edges.on("`file`: a file")
                .test("file 0", () -> Due.same("extents", Volumes.full().extents(0), 1))
                .test("file 15", () -> Due.same("extents", Volumes.full().extents(15), 1));
        edges.on("Throws `IndexOutOfBoundsException` if there is no such file")
                .noSuchFile(Buddyfield::extents).noSuchFileWhileDown(Buddyfield::extents);
        edges.on("Returns how many.")
                .test("0 of a new file", () -> Due.same("extents", Due.withFiles(1).extents(0), 0))
                .test("0 with reserved places alone", () -> Due.same("extents", Volumes.leaving(0).extents(1), 0))
                .test("1 of one place", () -> Due.same("extents", mapped(63, 1).extents(0), 1))
                .test("1 of all places", () -> Due.same("extents", mapped(0, 64).extents(0), 1))
                .test("64, the most", () -> Due.same("extents", Volumes.everyOtherBlock().extents(0), 64))
                .test("0 behind a cut to 0", Promise23Edges::cutToNone);
        edges.on("An extent is a longest row of places, one behind the other, "
                + "that are mapped to blocks one behind the other.")
                .test("over the border of two groups", () -> Due.same("extents", mapped(0, 33).extents(0), 1))
                .test("a place with nothing parts two", Promise23Edges::partedByNothing)
                .test("a reserved place parts two", Promise23Edges::partedByReserved)
                .test("a block that does not follow parts two", Promise23Edges::partedByBlocks)
                .test("127 and 0 are not one behind the other", Promise23Edges::behindTheLastBlock)
                .test("falling blocks are not one behind the other", Promise23Edges::fallingBlocks)
                .test("a place between makes one of two", Promise23Edges::madeOne);
    }

    private static void extent(Edges edges) {
        edges.promise(24);
        edges.on("Returns what an extent is.").test("of the file asked for", Promise23Edges::ofThatFile);
        edges.on("`file`: a file")
                .test("file 0", () -> Due.same("extent", Volumes.full().extent(0, 0), 100))
                .test("file 15", () -> Due.same("extent", Volumes.full().extent(15, 0), 150199));
        edges.on("`extent`: 0 for that with the lowest places")
                .test("0, also if it was mapped last", Promise23Edges::lowestPlaces)
                .test("1, the next one", () -> Due.same("extent", Volumes.everyOtherBlock().extent(0, 1), 10102))
                .test("63, the last of 64", () -> Due.same("extent", Volumes.everyOtherBlock().extent(0, 63), 630126));
        edges.on("Throws `IndexOutOfBoundsException` if there is no such file or extent")
                .noSuchFile((volume, file) -> volume.extent(file, 0))
                .noSuchFileWhileDown((volume, file) -> volume.extent(file, 0))
                .outOfBounds("no such file and no such extent", Volumes::busy, volume -> volume.extent(8, -1))
                .outOfBounds("extent 0 of none", Volumes::busy, volume -> volume.extent(4, 0))
                .outOfBounds("extent 0 of reserved places alone", Volumes::busy, volume -> volume.extent(2, 0))
                .outOfBounds("extent 64 of 64", Volumes::everyOtherBlock, volume -> volume.extent(0, 64));
        for (int extent : new int[] {-1, 1, Integer.MIN_VALUE, Integer.MAX_VALUE}) {
            edges.outOfBounds("extent " + extent + " of one", Volumes::busy, volume -> volume.extent(0, extent))
                    .outOfBounds("extent " + extent + " of one, and down", Volumes::down,
                            volume -> volume.extent(0, extent));
        }
        edges.on("Returns 10000 times its first place, plus 100 times its length, "
                + "plus its first block modulo 100.")
                .test("place 0, one, block 0", () -> Due.same("extent", mapped(0, 1).extent(0, 0), 100))
                .test("place 63, one, block 0", () -> Due.same("extent", mapped(63, 1).extent(0, 0), 630100))
                .test("place 0, 64, block 0", () -> Due.same("extent", mapped(0, 64).extent(0, 0), 6400))
                .test("place 1, 63", () -> Due.same("extent", mapped(1, 63).extent(0, 0), 16300))
                .test("block 99", () -> firstBlockDue(3, 199))
                .test("block 100", () -> firstBlockDue(4, 100))
                .test("block 127", () -> firstBlockDue(31, 127));
    }

    private static void average(Edges edges) {
        edges.promise(25);
        edges.on("Returns how many places an extent of a file has on average: how many are mapped, "
                + "as a float, divided by the number of extents, as a float.")
                .test("1.0 with one place", () -> Due.same("average", mapped(0, 1).average(0), 1.0f))
                .test("64.0, the most", () -> Due.same("average", mapped(0, 64).average(0), 64.0f))
                .test("1.0 with 64 extents", () -> Due.same("average", Volumes.everyOtherBlock().average(0), 1.0f))
                .test("1.5, not a whole number", Promise23Edges::oneAndAHalf)
                .test("4 thirds, as a float", Promise23Edges::fourThirds)
                .test("reserved and kept ones are not counted", Promise23Edges::mappedAlone);
        edges.on("`file`: a file")
                .test("file 0", () -> Due.same("average", Volumes.full().average(0), 1.0f))
                .test("file 15", () -> Due.same("average", Volumes.full().average(15), 1.0f));
        edges.on("Returns the average; 0.0 without extents.")
                .test("a new file", () -> Due.same("average", Due.withFiles(1).average(0), 0.0f))
                .test("reserved places alone", () -> Due.same("average", Volumes.leaving(0).average(1), 0.0f))
                .test("behind a cut to 0", Promise23Edges::averageOfNone);
        edges.on("Throws `IndexOutOfBoundsException` if there is no such file")
                .noSuchFile(Buddyfield::average).noSuchFileWhileDown(Buddyfield::average);
    }

    private static Buddyfield mapped(int first, int many) {
        Buddyfield volume = Due.withFiles(1);
        Due.writeAndFlush(volume, 0, first, many);
        return volume;
    }

    private static void notOfOthers() {
        Buddyfield volume = Due.withFiles(3);
        Due.writeAndFlush(volume, 1, 0, 1);
        Due.writeAndFlush(volume, 1, 9, 1);
        Due.same("file 0", volume.extents(0), 0);
        Due.same("file 1", volume.extents(1), 2);
        Due.same("file 2", volume.extents(2), 0);
    }

    private static void cutToNone() {
        Buddyfield volume = mapped(0, 20);
        volume.cut(0, 0);
        Due.same("extents", volume.extents(0), 0);
    }

    /** The places 0 and 2 with the blocks 0 and 1. */
    private static void partedByNothing() {
        Buddyfield volume = mapped(0, 1);
        Due.writeAndFlush(volume, 0, 2, 1);
        Due.same("block", volume.blockAt(0, 2), 1);
        Due.same("extents", volume.extents(0), 2);
        Due.same("the first", volume.extent(0, 0), 100);
        Due.same("the second", volume.extent(0, 1), 20101);
    }

    private static void partedByReserved() {
        Buddyfield volume = mapped(0, 1);
        Due.writeAndFlush(volume, 0, 2, 1);
        volume.write(0, 1, 1);
        Due.same("extents", volume.extents(0), 2);
        Due.same("the second", volume.extent(0, 1), 20101);
    }

    private static void partedByBlocks() {
        Buddyfield volume = Volumes.everyOtherBlock();
        Due.same("blocks", Due.blocks(volume, 0, 0, 3), "0 2 4");
        Due.same("the first", volume.extent(0, 0), 100);
        Due.same("the second", volume.extent(0, 1), 10102);
    }

    /** File 3 fills its group, so that it goes on with block 0. */
    private static void behindTheLastBlock() {
        Buddyfield volume = Due.withFiles(4);
        Due.writeAndFlush(volume, 3, 0, 33);
        Due.same("blocks", Due.blocks(volume, 3, 31, 2), "127 0");
        Due.same("extents", volume.extents(3), 2);
        Due.same("the first", volume.extent(3, 0), 3296);
        Due.same("the second", volume.extent(3, 1), 320100);
    }

    private static void fallingBlocks() {
        Buddyfield volume = mapped(1, 1);
        Due.writeAndFlush(volume, 0, 0, 1);
        Due.same("blocks", Due.blocks(volume, 0, 0, 2), "1 0");
        Due.same("extents", volume.extents(0), 2);
    }

    /** The places 0 and 2 have the blocks 0 and 2, and place 1 the block between, which another file had. */
    private static void madeOne() {
        Buddyfield volume = Due.withFiles(5);
        Due.writeAndFlush(volume, 0, 0, 1);
        Due.writeAndFlush(volume, 4, 0, 1);
        Due.writeAndFlush(volume, 0, 2, 1);
        volume.delete(4);
        Due.same("extents", volume.extents(0), 2);
        Due.writeAndFlush(volume, 0, 1, 1);
        Due.same("extents", volume.extents(0), 1);
        Due.same("extent", volume.extent(0, 0), 300);
    }

    private static void ofThatFile() {
        Buddyfield volume = Due.withFiles(3);
        for (int file = 0; file < 3; file++) {
            Due.writeAndFlush(volume, file, file, 2);
        }
        Due.same("file 0", volume.extent(0, 0), 200);
        Due.same("file 1", volume.extent(1, 0), 10232);
        Due.same("file 2", volume.extent(2, 0), 20264);
    }

    private static void lowestPlaces() {
        Buddyfield volume = mapped(40, 2);
        Due.writeAndFlush(volume, 0, 7, 2);
        Due.same("extent 0", volume.extent(0, 0), 70202);
        Due.same("extent 1", volume.extent(0, 1), 400200);
    }

    /** File 7 has the first blocks of the last group, and file 3 the next one. */
    private static void firstBlockDue(int offset, int want) {
        Buddyfield volume = Due.withFiles(8);
        for (int place = 0; place < offset; place++) {
            Due.writeAndFlush(volume, 7, place, 1);
        }
        Due.writeAndFlush(volume, 3, 0, 1);
        Due.same("block", volume.blockAt(3, 0), 96 + offset);
        Due.same("extent", volume.extent(3, 0), want);
    }

    /** The places 0 and 1, and place 5. */
    private static void oneAndAHalf() {
        Buddyfield volume = mapped(0, 2);
        Due.writeAndFlush(volume, 0, 5, 1);
        Due.same("average", volume.average(0), 1.5f);
    }

    private static void fourThirds() {
        Buddyfield volume = mapped(0, 2);
        Due.writeAndFlush(volume, 0, 5, 1);
        Due.writeAndFlush(volume, 0, 9, 1);
        Due.same("average", volume.average(0), 4.0f / 3.0f);
    }

    private static void mappedAlone() {
        Buddyfield volume = mapped(0, 5);
        volume.write(0, 20, 9);
        Due.same("kept", volume.kept(), 3);
        Due.same("average", volume.average(0), 5.0f);
    }

    private static void averageOfNone() {
        Buddyfield volume = mapped(0, 20);
        volume.cut(0, 0);
        Due.same("average", volume.average(0), 0.0f);
    }
}
