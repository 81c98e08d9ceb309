/** Promise 7: how reserved places are mapped. */
final class Promise07Edges {

    private Promise07Edges() {
    }

    static void tests(Edges edges) {
        edges.promise(7);
        edges.on("Flushes a file.").test("that one alone", Promise07Edges::thatOneAlone);
        edges.on("`file`: a file")
                .test("file 0 is taken", () -> flushedOfFull(0))
                .test("file 15 is taken", () -> flushedOfFull(15));
        edges.on("Throws `IndexOutOfBoundsException` if there is no such file").noSuchFile(Buddyfield::flush);
        edges.on("Returns how many places are mapped by that.")
                .test("0 with no reserved place", () -> Due.same("flush", Due.withFiles(1).flush(0), 0))
                .test("0 with mapped places alone", Promise07Edges::flushedTwice)
                .test("1", () -> Due.same("flush", Due.writeAndFlush(Due.withFiles(1), 0, 0, 1), 1))
                .test("64", () -> Due.same("flush", Due.writeAndFlush(Due.withFiles(1), 0, 0, 64), 64))
                .test("those that are kept are not counted",
                        () -> Due.same("flush", Due.writeAndFlush(Due.withFiles(1), 0, 0, 5), 5));
        edges.on("Throws `IllegalStateException` if the volume is down")
                .badState("down", Volumes::down, volume -> volume.flush(0));
        edges.on("If several apply, the one that is named first in the throws clause is thrown.")
                .noSuchFileWhileDown(Buddyfield::flush);
        rows(edges);
        goals(edges);
        lengths(edges);
        edges.promise(7).on("Blocks that are reserved are not chosen yet")
                .test("a flush maps the last free block to the last reserved place", Promise07Edges::lastBlock);
    }

    private static void rows(Edges edges) {
        edges.on("Flushing takes the longest rows of reserved places of the file, by rising places, "
                + "and maps them as follows, until nothing of the row remains")
                .test("rows that were written by falling places", Promise07Edges::risingPlaces)
                .test("a row that was written in two parts", Promise07Edges::oneRowOfTwoParts)
                .test("rows parted by a mapped place", Promise07Edges::rowsPartedByMapped)
                .test("rows parted by a place with nothing", Promise07Edges::rowsPartedByNothing)
                .test("a row up to place 63", () -> placesDue(0, 60, 4, "0 1 2 3"))
                .test("a row of all places", () -> placesDue(0, 0, 64, upFrom(0, 64)));
        edges.on("each place that is mapped is not reserved any more")
                .test("none is, behind a flush", Promise07Edges::noneIsReserved)
                .test("those of another file are", Promise07Edges::othersAreReserved);
    }

    private static void goals(Edges edges) {
        edges.on("Otherwise the goal is the block behind the one to which the place ahead of what remains is mapped")
                .test("the place ahead is mapped: on behind it, not aligned", () -> behindThePlaceAhead(0))
                .test("the same in group 1", () -> behindThePlaceAhead(1))
                .test("the same in group 2", () -> behindThePlaceAhead(2))
                .test("the same in group 3", () -> behindThePlaceAhead(3))
                .test("the place ahead, not the one that was mapped last", Promise07Edges::notBehindTheLast)
                .test("behind 16 of a row, too", () -> placesDue(0, 0, 18, upFrom(0, 18)))
                .test("behind 31: 32, in the next group", Promise07Edges::goalInTheNextGroup)
                .test("behind 126: 127, the last block", Promise07Edges::goal127);
        edges.on("if there is none such, or that block would be 128, "
                + "it is the first block of the group with the number of the file modulo 4")
                .test("place 0 of file 0", () -> placesDue(0, 0, 1, "0"))
                .test("place 0 of file 1", () -> placesDue(1, 0, 1, "32"))
                .test("place 0 of file 2", () -> placesDue(2, 0, 1, "64"))
                .test("place 0 of file 3", () -> placesDue(3, 0, 1, "96"))
                .test("place 0 of file 4", () -> placesDue(4, 0, 1, "0"))
                .test("place 0 of file 15", () -> placesDue(15, 0, 1, "96"))
                .test("the place ahead has nothing", Promise07Edges::nothingAhead)
                .test("the place behind alone is mapped", Promise07Edges::mappedBehind)
                .test("the block would be 128", Promise07Edges::goal128);
        edges.on("the blocks from the goal on are taken if all of them are free and in the group of the goal")
                .test("the last of them is 31, and ends group 0", () -> endOfTheGroup(0))
                .test("the last of them is 63, and ends group 1", () -> endOfTheGroup(1))
                .test("the last of them is 95, and ends group 2", () -> endOfTheGroup(2))
                .test("the last of them is 127, and ends group 3", () -> endOfTheGroup(3))
                .test("the last of them would be 32, of group 1", () -> beyondTheGroup(0))
                .test("the last of them would be 64, of group 2", () -> beyondTheGroup(1))
                .test("the last of them would be 96, of group 3", () -> beyondTheGroup(2))
                .test("the last of them would be 128, which is no block", () -> beyondTheGroup(3))
                .test("all but the first of them would be in the next group", Promise07Edges::almostAllBeyond)
                .test("the first of them is not free", Promise07Edges::firstIsNotFree)
                .test("the last of them is not free", Promise07Edges::lastIsNotFree)
                .test("one of them is kept for another file", Promise07Edges::keptIsNotFree);
        edges.on("otherwise the first aligned piece of this length that is free, in the group of the goal, "
                + "or, if there is none, in the next group, and so on, 0 behind 3")
                .test("ahead of the goal", Promise07Edges::pieceAheadOfTheGoal)
                .test("free blocks that are not aligned are passed over", Promise07Edges::notAligned)
                .test("the last piece of the group", Promise07Edges::lastPieceOfTheGroup)
                .test("the group is full: the next one", () -> pieceOf(1, "32"))
                .test("two groups are full: the one behind", () -> pieceOf(2, "64"))
                .test("three groups are full: the fourth one", () -> pieceOf(3, "96"))
                .test("group 3 is full: 0 behind 3", Promise07Edges::zeroBehindThree)
                .test("the groups 1 to 3 are full: 0 behind 3", Promise07Edges::allTheWayRound)
                .test("a piece in the next group goes ahead of half of it in this one",
                        Promise07Edges::lengthGoesAheadOfGroup);
        edges.on("If there is none in any group, half the length is tried in the same way.")
                .test("from the goal on", Promise07Edges::halfFromTheGoal)
                .test("a piece of half the length", Promise07Edges::pieceOfHalf)
                .test("halved down to 1", Promise07Edges::halvedToOne);
    }

    private static void lengths(Edges edges) {
        edges.on("A length is tried, 1, 2, 4, 8 or 16: the least one that is not below how many places remain");
        int[][] many = {{1, 0}, {2, 0}, {3, 1}, {4, 0}, {5, 3}, {7, 1}, {8, 0}, {9, 7}, {15, 1}, {16, 0}};
        for (int[] each : many) {
            edges.test(each[0] + " places: " + each[1] + " too many", () -> keptDue(each[0], each[1]));
        }
        edges.on("but if there is none, or if the blocks that would be too many are more than what is left, "
                + "the greatest one that is not above how many places remain");
        int[][] more = {{17, 0}, {18, 0}, {19, 1}, {25, 7}, {33, 0}, {63, 1}, {64, 0}};
        for (int[] each : more) {
            edges.test(each[0] + " places: 16, and then " + each[1] + " too many", () -> keptDue(each[0], each[1]));
        }
        int[][] left = {{5, 3, 3}, {5, 2, 0}, {9, 7, 7}, {9, 6, 0}, {3, 1, 1}, {3, 0, 0}, {15, 1, 1}, {15, 0, 0},
            {1, 0, 0}, {16, 0, 0}, {11, 5, 5}, {11, 4, 1}, {7, 1, 1}, {7, 0, 0}, {6, 1, 0}, {21, 3, 3}, {21, 2, 0}};
        for (int[] each : left) {
            edges.test(each[0] + " places with " + each[1] + " left: " + each[2] + " are kept",
                    () -> keptOfLeft(each[0], each[1], each[2]));
        }
        edges.test("blocks that are kept for the file are not left", Promise07Edges::keptIsNotLeft);
        keeping(edges);
    }

    private static void keeping(Edges edges) {
        edges.on("Blocks that are kept are each kept for one place: in their order, "
                + "for the places behind the last one that was mapped when they were found")
                .test("one by one, in their order", Promise07Edges::oneByOne)
                .test("behind the last one of those, not behind the greatest mapped one",
                        Promise07Edges::behindTheLastOfThose);
        edges.on("(also if there are no such places any more)")
                .test("up to place 63: kept for 64 to 66", () -> keptBehindTheEnd(59, 3))
                .test("up to place 63: kept for 64", () -> keptBehindTheEnd(61, 1))
                .test("up to place 62: kept for 63 and 64", Promise07Edges::keptForTheLastPlace)
                .test("kept for a place that is mapped", Promise07Edges::keptForMappedPlace);
        edges.on("If the first place of what remains is the one for which the first block is kept "
                + "that is kept for the file, then as many of the kept ones as are needed, from the first one on, "
                + "are mapped, and are not kept any more.")
                .test("one of three", () -> keptOnes(5, 1, 2, "5"))
                .test("two of three", () -> keptOnes(5, 2, 1, "5 6"))
                .test("three of three", () -> keptOnes(5, 3, 0, "5 6 7"))
                .test("four, so one behind the three", () -> keptOnes(5, 4, 0, "5 6 7 8"))
                .test("six, so four behind the three, of which one is kept", () -> keptOnes(5, 6, 1, "5 6 7 8 9 10"))
                .test("the place for which the second one is kept", () -> keptOnes(6, 1, 3, "8"))
                .test("the place for which the third one is kept", () -> keptOnes(7, 1, 3, "8"))
                .test("the place behind those", () -> keptOnes(8, 1, 3, "8"))
                .test("the same place of another file", Promise07Edges::keptForAnotherFile)
                .test("not behind a cut, not even to 64", Promise07Edges::notBehindACut)
                .test("not behind a crash", Promise07Edges::notBehindACrash);
        edges.on("Of the blocks that are found, as many as places remain are mapped, in their order; "
                + "if some are too many, those that were kept for the file become free, "
                + "and these are kept for it instead.")
                .test("none is too many: those kept before stay", Promise07Edges::keptStay)
                .test("one is too many: those kept before become free", Promise07Edges::keptAreReplaced)
                .test("those kept for other files stay", Promise07Edges::othersKeptStay)
                .test("those kept before cannot be found themselves", Promise07Edges::keptAreNotFound);
        edges.on("A block is free, or it is of a file: mapped to one of its places, or kept for it.")
                .test("each block is the one or the other", Promise07Edges::oneOrTheOther);
    }

    private static String upFrom(int first, int many) {
        StringBuilder text = new StringBuilder();
        for (int block = first; block < first + many; block++) {
            text.append(block == first ? "" : " ").append(block);
        }
        return text.toString();
    }

    private static void blocksDue(Buddyfield volume, int file, int first, int many, String want) {
        Due.same("flush", Due.writeAndFlush(volume, file, first, many), many);
        Due.same("blocks", Due.blocks(volume, file, first, many), want);
    }

    /** The first flush of a file in a new volume. */
    private static void placesDue(int file, int first, int many, String want) {
        blocksDue(Due.withFiles(16), file, first, many, want);
    }

    private static void thatOneAlone() {
        Buddyfield volume = Due.withFiles(3);
        for (int file = 0; file < 3; file++) {
            volume.write(file, 0, 3);
        }
        Due.same("flush", volume.flush(1), 3);
        Due.same("file 0", Due.blocks(volume, 0, 0, 3), "-2 -2 -2");
        Due.same("file 1", Due.blocks(volume, 1, 0, 3), "32 33 34");
        Due.same("file 2", Due.blocks(volume, 2, 0, 3), "-2 -2 -2");
    }

    private static void flushedOfFull(int file) {
        Due.same("flush", Due.writeAndFlush(Volumes.full(), file, 30, 3), 3);
    }

    private static void flushedTwice() {
        Buddyfield volume = Due.withFiles(1);
        Due.writeAndFlush(volume, 0, 0, 5);
        String before = Due.stateOf(volume);
        Due.same("flush", volume.flush(0), 0);
        Due.same("state", Due.stateOf(volume), before);
    }

    private static void lastBlock() {
        Buddyfield volume = Volumes.leaving(1);
        volume.write(0, 63, 1);
        Due.same("the others", volume.flush(1) + volume.flush(2), 127);
        Due.same("free", volume.free(), 1);
        Due.same("flush", volume.flush(0), 1);
        Due.same("free", volume.free(), 0);
        Due.same("reserved", volume.reserved(), 0);
        Due.same("place 63", volume.blockAt(0, 63) >= 0, true);
    }

    // ---- rows

    private static void risingPlaces() {
        Buddyfield volume = Due.withFiles(1);
        volume.write(0, 63, 1);
        volume.write(0, 30, 2);
        volume.write(0, 0, 1);
        Due.same("flush", volume.flush(0), 4);
        Due.same("place 0", volume.blockAt(0, 0), 0);
        // The piece of two is aligned, so block 1 is passed over, and is the first free one for place 63.
        Due.same("place 30 and 31", Due.blocks(volume, 0, 30, 2), "2 3");
        Due.same("place 63", volume.blockAt(0, 63), 1);
    }

    private static void oneRowOfTwoParts() {
        Buddyfield volume = Due.withFiles(1);
        volume.write(0, 2, 3);
        volume.write(0, 0, 2);
        Due.same("flush", volume.flush(0), 5);
        Due.same("8 for 5 places", volume.kept(), 3);
    }

    private static void rowsPartedByMapped() {
        Buddyfield volume = Due.withFiles(1);
        Due.writeAndFlush(volume, 0, 2, 1);
        volume.write(0, 0, 5);
        Due.same("flush", volume.flush(0), 4);
        // 2 and 3 are the first piece of two; behind block 0 two blocks are not free for the row behind.
        Due.same("places", Due.blocks(volume, 0, 0, 5), "2 3 0 4 5");
        Due.same("kept", volume.kept(), 0);
    }

    private static void rowsPartedByNothing() {
        Buddyfield volume = Due.withFiles(1);
        volume.write(0, 0, 2);
        volume.write(0, 3, 3);
        Due.same("flush", volume.flush(0), 5);
        Due.same("places", Due.blocks(volume, 0, 0, 6), "0 1 -1 4 5 6");
        Due.same("4 for the 3 behind", volume.kept(), 1);
    }

    private static void noneIsReserved() {
        Buddyfield volume = Due.withFiles(1);
        volume.write(0, 0, 20);
        volume.write(0, 40, 24);
        volume.flush(0);
        Due.same("reserved", volume.reserved(), 0);
        Due.same("mapped", volume.freeByFiles() + volume.kept(), 84);
        Due.same("write", volume.write(0, 0, 20), 0);
    }

    private static void othersAreReserved() {
        Buddyfield volume = Due.withFiles(2);
        volume.write(0, 0, 20);
        volume.write(1, 40, 24);
        volume.flush(0);
        Due.same("reserved", volume.reserved(), 24);
    }

    // ---- goals

    private static void behindThePlaceAhead(int group) {
        Buddyfield volume = Due.withFiles(4);
        Due.writeAndFlush(volume, group, 0, 1);
        blocksDue(volume, group, 1, 4, upFrom(32 * group + 1, 4));
    }

    private static void notBehindTheLast() {
        Buddyfield volume = Due.withFiles(1);
        Due.writeAndFlush(volume, 0, 0, 2);
        Due.writeAndFlush(volume, 0, 30, 8);
        Due.same("the last ones", volume.blockAt(0, 37), 15);
        blocksDue(volume, 0, 2, 2, "2 3");
    }

    private static void goalInTheNextGroup() {
        Buddyfield volume = Due.withFiles(1);
        Due.writeAndFlush(volume, 0, 0, 32);
        blocksDue(volume, 0, 32, 2, "32 33");
    }

    /** File 7 has block 96, and file 3 those behind it up to 126; then 96 is free again, and 127 is, too. */
    private static Buddyfield upTo126() {
        Buddyfield volume = Due.withFiles(8);
        Due.writeAndFlush(volume, 7, 0, 1);
        Due.writeAndFlush(volume, 3, 0, 1);
        Due.writeAndFlush(volume, 3, 1, 16);
        Due.writeAndFlush(volume, 3, 17, 8);
        Due.writeAndFlush(volume, 3, 25, 4);
        Due.writeAndFlush(volume, 3, 29, 1);
        volume.delete(7);
        Due.same("extent", volume.extent(3, 0), 3097);
        return volume;
    }

    private static void goal127() {
        blocksDue(upTo126(), 3, 30, 1, "127");
    }

    private static void nothingAhead() {
        Buddyfield volume = Due.withFiles(2);
        Due.writeAndFlush(volume, 1, 0, 1);
        Due.writeAndFlush(volume, 1, 5, 8);
        Due.same("behind nothing", volume.blockAt(1, 5), 40);
        blocksDue(volume, 1, 20, 1, "33");
    }

    private static void mappedBehind() {
        Buddyfield volume = Due.withFiles(2);
        Due.writeAndFlush(volume, 1, 1, 16);
        blocksDue(volume, 1, 0, 1, "48");
    }

    /** File 2 has 80 to 95 and 112 to 127; with file 6 deleted, its group begins with free blocks. */
    private static void goal128() {
        Buddyfield volume = Due.withFiles(7);
        Due.writeAndFlush(volume, 6, 0, 16);
        Due.writeAndFlush(volume, 3, 0, 16);
        Due.writeAndFlush(volume, 2, 0, 32);
        Due.same("place 31", volume.blockAt(2, 31), 127);
        volume.delete(6);
        blocksDue(volume, 2, 32, 2, "64 65");
    }

    /** With the first eight blocks of the group free again, which would be found otherwise. */
    private static void endOfTheGroup(int group) {
        Buddyfield volume = Due.withFiles(8);
        Due.writeAndFlush(volume, group + 4, 0, 8);
        Due.writeAndFlush(volume, group, 0, 8);
        Due.writeAndFlush(volume, group, 8, 8);
        volume.delete(group + 4);
        Due.same("eight blocks on", volume.blockAt(group, 0), 32 * group + 8);
        blocksDue(volume, group, 16, 8, upFrom(32 * group + 24, 8));
    }

    /** The last three blocks of the group are free, and the next group is. */
    private static void beyondTheGroup(int group) {
        Buddyfield volume = Due.withFiles(4);
        Due.writeAndFlush(volume, group, 0, 16);
        Due.writeAndFlush(volume, group, 16, 8);
        Due.writeAndFlush(volume, group, 24, 4);
        Due.writeAndFlush(volume, group, 28, 1);
        Due.same("the last one of the group", volume.isFree(32 * group + 31), true);
        blocksDue(volume, group, 29, 4, upFrom(32 * ((group + 1) % 4), 4));
    }

    private static void almostAllBeyond() {
        blocksDue(upTo126(), 3, 30, 16, upFrom(0, 16));
    }

    private static void firstIsNotFree() {
        Buddyfield volume = Due.withFiles(5);
        Due.writeAndFlush(volume, 0, 0, 1);
        blocksDue(volume, 4, 0, 2, "2 3");
    }

    private static void lastIsNotFree() {
        Buddyfield volume = Due.withFiles(5);
        Due.writeAndFlush(volume, 0, 0, 1);
        Due.writeAndFlush(volume, 4, 0, 2);
        Due.same("block 1 is free", volume.isFree(1), true);
        blocksDue(volume, 0, 1, 2, "4 5");
    }

    private static void keptIsNotFree() {
        Buddyfield volume = Due.withFiles(5);
        Due.writeAndFlush(volume, 0, 0, 3);
        Due.same("kept", volume.kept(), 1);
        blocksDue(volume, 4, 0, 1, "4");
    }

    // ---- pieces

    private static void pieceAheadOfTheGoal() {
        Buddyfield volume = Due.withFiles(9);
        Due.writeAndFlush(volume, 0, 0, 4);
        Due.writeAndFlush(volume, 4, 0, 4);
        Due.writeAndFlush(volume, 8, 0, 4);
        volume.delete(0);
        blocksDue(volume, 4, 4, 4, "0 1 2 3");
    }

    private static void notAligned() {
        Buddyfield volume = Due.withFiles(5);
        Due.writeAndFlush(volume, 0, 0, 2);
        Due.same("2 to 7 are free", volume.pieces(0, 1), 15);
        blocksDue(volume, 4, 0, 4, "4 5 6 7");
    }

    private static void lastPieceOfTheGroup() {
        Buddyfield volume = Due.withFiles(5);
        Due.writeAndFlush(volume, 0, 0, 16);
        Due.writeAndFlush(volume, 0, 16, 8);
        blocksDue(volume, 4, 0, 8, upFrom(24, 8));
    }

    /** A row of one of file 4, whose group is 0, with so many groups full. */
    private static void pieceOf(int fullGroups, String want) {
        Buddyfield volume = Due.withFiles(5);
        for (int group = 0; group < fullGroups; group++) {
            Due.writeAndFlush(volume, group, 0, 32);
        }
        blocksDue(volume, 4, 0, 1, want);
    }

    private static void zeroBehindThree() {
        Buddyfield volume = Due.withFiles(8);
        Due.writeAndFlush(volume, 3, 0, 32);
        blocksDue(volume, 7, 0, 4, "0 1 2 3");
    }

    private static void allTheWayRound() {
        Buddyfield volume = Due.withFiles(6);
        Due.writeAndFlush(volume, 1, 0, 32);
        Due.writeAndFlush(volume, 2, 0, 32);
        Due.writeAndFlush(volume, 3, 0, 32);
        blocksDue(volume, 5, 0, 3, "0 1 2");
    }

    private static void lengthGoesAheadOfGroup() {
        Buddyfield volume = Due.withFiles(5);
        Due.writeAndFlush(volume, 0, 0, 16);
        Due.writeAndFlush(volume, 0, 16, 1);
        Due.same("no piece of 16, one of 8", volume.pieces(0, 4) * 10 + volume.pieces(0, 3), 1);
        blocksDue(volume, 4, 0, 16, upFrom(32, 16));
    }

    /** In each group the first 16 blocks and one of the other 16 are taken, so that no 16 are free at all. */
    private static Buddyfield withoutSixteen() {
        Buddyfield volume = Due.withFiles(16);
        for (int group = 0; group < 4; group++) {
            Due.writeAndFlush(volume, group, 0, 16);
            Due.writeAndFlush(volume, group + 4, 0, 1);
            Due.same("16 blocks on", volume.blockAt(group + 4, 0), 32 * group + 16);
        }
        return volume;
    }

    private static void halfFromTheGoal() {
        Buddyfield volume = withoutSixteen();
        // From 17 on 8 are free, though the first aligned piece of 8 is from 24 on.
        blocksDue(volume, 4, 1, 16, upFrom(17, 8) + " " + "56 57 58 59 60 61 62 63");
    }

    private static void pieceOfHalf() {
        Buddyfield volume = withoutSixteen();
        blocksDue(volume, 8, 0, 16, upFrom(24, 8) + " " + upFrom(56, 8));
    }

    /** File 0 is cut to 4, so that 60 single blocks are free. */
    private static void halvedToOne() {
        Buddyfield volume = Volumes.everyOtherBlock();
        Due.same("place 63 of both", volume.blockAt(0, 63) * 1000 + volume.blockAt(4, 63), 126127);
        volume.cut(0, 4);
        Due.same("no two side by side", volume.pieces(0, 1) + volume.pieces(3, 1), 0);
        Due.same("free", volume.free(), 60);
        blocksDue(volume, 5, 0, 16, "32 34 36 38 40 42 44 46 48 50 52 54 56 58 60 62");
        Due.same("kept", volume.kept(), 0);
    }

    // ---- lengths

    private static void keptDue(int places, int kept) {
        Buddyfield volume = Due.withFiles(1);
        Due.same("flush", Due.writeAndFlush(volume, 0, 0, places), places);
        Due.same("kept", volume.kept(), kept);
        Due.same("free", volume.free(), 128 - places - kept);
        Due.same("one extent", volume.extents(0), 1);
        Due.same("from block 0 on", volume.extent(0, 0), 100 * places);
    }

    private static void keptOfLeft(int places, int left, int kept) {
        Buddyfield volume = Volumes.leaving(places + left);
        volume.write(0, 0, places);
        Due.same("left", volume.free() - volume.reserved(), left);
        Due.same("flush", volume.flush(0), places);
        Due.same("kept", volume.kept(), kept);
        Due.same("free", volume.free(), 128 - places - kept);
        Due.same("left", volume.free() - volume.reserved(), left - kept);
        Due.same("one extent, from block 0 on", volume.extent(0, 0), 100 * places);
    }

    /** 3 are kept for file 0, and none besides is left: 3 places get 2 and 1, and the 3 stay kept. */
    private static void keptIsNotLeft() {
        Buddyfield volume = Due.withFiles(3);
        Due.writeAndFlush(volume, 0, 0, 5);
        volume.write(1, 0, 64);
        volume.write(2, 0, 53);
        volume.write(0, 20, 3);
        Due.same("left", volume.free() - volume.reserved(), 0);
        Due.same("flush", volume.flush(0), 3);
        Due.same("kept", volume.kept(), 3);
        Due.same("blocks", Due.blocks(volume, 0, 20, 3), "8 9 10");
    }

    // ---- blocks that are kept

    private static void keptOnes(int first, int many, int kept, String want) {
        Buddyfield volume = Volumes.fiveOfEight();
        blocksDue(volume, 0, first, many, want);
        Due.same("kept", volume.kept(), kept);
    }

    private static void oneByOne() {
        Buddyfield volume = Volumes.fiveOfEight();
        for (int place = 5; place < 8; place++) {
            blocksDue(volume, 0, place, 1, Integer.toString(place));
            Due.same("kept", volume.kept(), 7 - place);
        }
        Due.same("all of one extent", volume.extent(0, 0), 800);
    }

    private static void behindTheLastOfThose() {
        Buddyfield volume = Due.withFiles(1);
        Due.writeAndFlush(volume, 0, 40, 1);
        Due.writeAndFlush(volume, 0, 10, 3);
        Due.same("4 to 6 of 4 to 7", Due.blocks(volume, 0, 10, 3), "4 5 6");
        blocksDue(volume, 0, 41, 1, "1");
        Due.same("7 is not kept for place 41", volume.kept(), 1);
        blocksDue(volume, 0, 13, 1, "7");
        Due.same("but for place 13", volume.kept(), 0);
    }

    private static void keptBehindTheEnd(int first, int kept) {
        Buddyfield volume = Due.withFiles(1);
        Due.writeAndFlush(volume, 0, first, 64 - first);
        Due.same("kept", volume.kept(), kept);
        int firstFree = 64 - first + kept;
        blocksDue(volume, 0, 0, 1, Integer.toString(firstFree));
        Due.same("kept", volume.kept(), kept);
        volume.cut(0, 64);
        Due.same("until a cut", volume.kept(), 0);
    }

    /** Six of eight, up to place 62. */
    private static void keptForTheLastPlace() {
        Buddyfield volume = Due.withFiles(1);
        Due.writeAndFlush(volume, 0, 57, 6);
        Due.same("kept", volume.kept(), 2);
        blocksDue(volume, 0, 63, 1, "6");
        Due.same("the one for place 64", volume.kept(), 1);
        Due.same("block 7", volume.isFree(7), false);
        Due.same("nothing to flush", volume.flush(0), 0);
        Due.same("still", volume.kept(), 1);
    }

    /** Place 6 is mapped elsewhere first; behind place 5 the block for it stays kept, and is never mapped. */
    private static void keptForMappedPlace() {
        Buddyfield volume = Volumes.fiveOfEight();
        blocksDue(volume, 0, 6, 1, "8");
        blocksDue(volume, 0, 5, 1, "5");
        Due.same("kept for 6 and 7", volume.kept(), 2);
        blocksDue(volume, 0, 7, 1, "9");
        Due.same("kept for 6 and 7", volume.kept(), 2);
    }

    private static void keptForAnotherFile() {
        Buddyfield volume = Volumes.fiveOfEight();
        blocksDue(volume, 4, 5, 1, "8");
        Due.same("kept", volume.kept(), 3);
    }

    /** A cut to 64 changes no place, but the blocks are not kept any more; another file takes the first. */
    private static void notBehindACut() {
        Buddyfield volume = Volumes.fiveOfEight();
        volume.cut(0, 64);
        blocksDue(volume, 4, 0, 1, "5");
        blocksDue(volume, 0, 5, 1, "6");
    }

    private static void notBehindACrash() {
        Buddyfield volume = Volumes.fiveOfEight();
        volume.crash();
        volume.start();
        blocksDue(volume, 4, 0, 1, "5");
        blocksDue(volume, 0, 5, 1, "6");
    }

    private static void keptStay() {
        Buddyfield volume = Volumes.fiveOfEight();
        blocksDue(volume, 0, 20, 4, "8 9 10 11");
        Due.same("kept", volume.kept(), 3);
        blocksDue(volume, 0, 5, 1, "5");
        Due.same("kept", volume.kept(), 2);
    }

    private static void keptAreReplaced() {
        Buddyfield volume = Volumes.fiveOfEight();
        blocksDue(volume, 0, 20, 3, "8 9 10");
        Due.same("kept", volume.kept(), 1);
        Due.same("5 and 7 are free", volume.isFree(5) && volume.isFree(7), true);
        Due.same("11 is kept", volume.isFree(11), false);
        blocksDue(volume, 4, 5, 1, "5");
        blocksDue(volume, 0, 5, 1, "6");
        Due.same("kept", volume.kept(), 1);
        blocksDue(volume, 0, 23, 1, "11");
        Due.same("kept", volume.kept(), 0);
    }

    private static void othersKeptStay() {
        Buddyfield volume = Volumes.fiveOfEight();
        Due.writeAndFlush(volume, 4, 0, 3);
        Due.same("kept", volume.kept(), 4);
        blocksDue(volume, 0, 5, 1, "5");
        Due.same("kept", volume.kept(), 3);
    }

    /** 12 to 15 are kept, an aligned piece of four; the four for three more places are found behind it. */
    private static void keptAreNotFound() {
        Buddyfield volume = Due.withFiles(1);
        Due.writeAndFlush(volume, 0, 0, 12);
        Due.same("kept", volume.kept(), 4);
        blocksDue(volume, 0, 20, 3, "16 17 18");
        Due.same("kept", volume.kept(), 1);
        Due.same("12 to 15 are free", volume.isFree(12) && volume.isFree(15), true);
        blocksDue(volume, 0, 40, 4, "12 13 14 15");
    }

    private static void oneOrTheOther() {
        Buddyfield volume = Volumes.busy();
        int free = 0;
        for (int block = 0; block < 128; block++) {
            free += volume.isFree(block) ? 1 : 0;
        }
        Due.same("free", volume.free(), free);
        Due.same("freeByFiles", volume.freeByFiles(), free);
        Due.same("5 + 9 + 20 mapped, 3 + 7 kept", free, 128 - 34 - 10);
    }
}
