/** Flushing with blocks kept from an earlier flush, for the same file and for others. */
final class PromisesMeetFlushEdges {

    private static final String KEPT_FIRST = "If the first place of what remains is the one for which the first "
            + "block is kept that is kept for the file, then as many of the kept ones as are needed, "
            + "from the first one on, are mapped, and are not kept any more.";
    private static final String TOO_MANY = "Of the blocks that are found, as many as places remain are mapped, "
            + "in their order; if some are too many, those that were kept for the file become free, "
            + "and these are kept for it instead.";
    private static final String NO_SUCH_PLACES = "in their order, for the places behind the last one that was mapped "
            + "when they were found (also if there are no such places any more)";

    private PromisesMeetFlushEdges() {
    }

    static void tests(Edges edges) {
        edges.promise(Document.TERMS);
        sameFile(edges);
        otherFiles(edges);
        shortOfBlocks(edges);
        cutsAndCrashes(edges);
    }

    private static void sameFile(Edges edges) {
        edges.on(KEPT_FIRST)
                .test("seven are kept, and used by three more flushes", PromisesMeetFlushEdges::threeMoreFlushes)
                .test("a row within the kept ones' places, written ahead of the row ahead", PromisesMeetFlushEdges::gap)
                .test("a place for which one is kept, and a second row, in one flush",
                        PromisesMeetFlushEdges::keptThenFound)
                .test("the rest of a row that used kept ones is found on, and some are kept anew",
                        PromisesMeetFlushEdges::usedUpAndKeptAnew)
                .test("a row of which kept ones are ahead, and 16 and more behind", PromisesMeetFlushEdges::longRow);
        edges.on(TOO_MANY)
                .test("a row ahead keeps anew, so a later row of the same flush has none kept",
                        PromisesMeetFlushEdges::foundThenNotKept)
                .test("a row ahead with none too many, so a later row uses what is kept",
                        PromisesMeetFlushEdges::foundThenKept)
                .test("each of three rows with one too many: the last one stays", PromisesMeetFlushEdges::threeRows);
        edges.on(NO_SUCH_PLACES)
                .test("kept for 64 to 66, through flushes with none too many, until some are",
                        PromisesMeetFlushEdges::behindTheLastPlace);
    }

    private static void otherFiles(Edges edges) {
        edges.on("A block is free, or it is of a file: mapped to one of its places, or kept for it.")
                .test("another file with the same goal passes over what is kept", PromisesMeetFlushEdges::passedOver)
                .test("a piece with a kept block in it is not free", PromisesMeetFlushEdges::pieceWithKept)
                .test("kept ones of two files are used by each its own", PromisesMeetFlushEdges::twoFilesKeep)
                .test("behind a cut, what was kept for the file is found by it and by another",
                        PromisesMeetFlushEdges::foundBehindACut);
        edges.on(TOO_MANY)
                .test("blocks that became free are found by another file", PromisesMeetFlushEdges::freedForAnother);
    }

    private static void shortOfBlocks(Edges edges) {
        edges.on("If less is left than that needs, all blocks that are kept are free first, "
                + "but only if enough is left then.")
                .test("free through another file's write, the file goes on at its goal, not with kept ones",
                        PromisesMeetFlushEdges::freeThroughAWrite)
                .test("kept through another file's refused write, the file goes on with them",
                        PromisesMeetFlushEdges::keptThroughARefusal);
        edges.on("what is left is how many blocks are free, less how many are reserved")
                .test("each kept one that is used leaves one more, so some are kept anew", PromisesMeetFlushEdges::noneLeft);
    }

    private static void cutsAndCrashes(Edges edges) {
        edges.on("reserved places from the size on have nothing then, and blocks kept for the file are free")
                .test("a cut behind the last place: what was kept is found by another file",
                        PromisesMeetFlushEdges::cutBehindTheLastPlace);
        edges.on("With a crash nothing is reserved or kept any more, no file is open, and the volume is down; "
                + "while it is down, only start() and questions are possible.")
                .test("what was kept for one file is found by another behind the start",
                        PromisesMeetFlushEdges::foundBehindTheStart);
        edges.on("If it is not open, or as soon as it is closed for the last time, it is cut to 0, "
                + "and there is no such file any more")
                .test("an open file that is to be deleted goes on with its kept ones",
                        PromisesMeetFlushEdges::toBeDeletedGoesOn)
                .test("what is kept for other files stays", PromisesMeetFlushEdges::deletionOfAnother);
    }

    private static void blocks(Buddyfield volume, int file, int first, String want) {
        int many = want.split(" ").length;
        Due.same("blocks of file " + file + " from place " + first + " on",
                Due.blocks(volume, file, first, many), want);
    }

    // ---- the same file

    /** 16 blocks are found for 9 places, and 9 to 15 are kept; two, three and two of those are used then. */
    private static void threeMoreFlushes() {
        Buddyfield volume = Due.withFiles(5);
        Due.writeAndFlush(volume, 0, 0, 9);
        Due.same("kept", volume.kept(), 7);
        Due.same("free", volume.free(), 112);
        Due.same("flush", Due.writeAndFlush(volume, 0, 9, 2), 2);
        blocks(volume, 0, 9, "9 10");
        Due.same("kept", volume.kept(), 5);
        Due.same("free, as before", volume.free(), 112);
        Due.same("flush", Due.writeAndFlush(volume, 0, 11, 3), 3);
        blocks(volume, 0, 11, "11 12 13");
        Due.same("kept", volume.kept(), 2);
        Due.same("flush", Due.writeAndFlush(volume, 0, 14, 4), 4);
        blocks(volume, 0, 14, "14 15 16 17");
        Due.same("kept", volume.kept(), 0);
        Due.same("free", volume.free(), 110);
        Due.same("one extent", volume.extent(0, 0), 1800);
    }

    /** 5, 6 and 7 are kept for those places; place 6 alone is another one's, and gets 8, which keeps none. */
    private static void gap() {
        Buddyfield volume = Volumes.fiveOfEight();
        Due.writeAndFlush(volume, 0, 6, 1);
        blocks(volume, 0, 5, "-1 8 -1");
        Due.same("kept", volume.kept(), 3);
        Due.writeAndFlush(volume, 0, 5, 3);
        blocks(volume, 0, 5, "5 8 9");
        Due.same("6 and 7 are kept on", volume.kept(), 2);
        Due.same("extents", volume.extents(0), 2);
    }

    /** Place 5 gets the kept 5; 8 to 11 are found for 20 to 22, so 6 and 7 become free, and 11 is kept. */
    private static void keptThenFound() {
        Buddyfield volume = Volumes.fiveOfEight();
        volume.write(0, 20, 3);
        volume.write(0, 5, 1);
        Due.same("flush", volume.flush(0), 4);
        blocks(volume, 0, 5, "5");
        blocks(volume, 0, 20, "8 9 10");
        Due.same("kept", volume.kept(), 1);
        Due.same("6", volume.isFree(6), true);
        Due.same("7", volume.isFree(7), true);
        Due.same("11", volume.isFree(11), false);
        Due.same("free", volume.free(), 118);
        Due.writeAndFlush(volume, 0, 23, 1);
        blocks(volume, 0, 23, "11");
        Due.same("kept", volume.kept(), 0);
    }

    /** Six places behind five: 5 to 7 are used, 8 to 11 are found for the three that remain, and 11 is kept. */
    private static void usedUpAndKeptAnew() {
        Buddyfield volume = Volumes.fiveOfEight();
        Due.same("flush", Due.writeAndFlush(volume, 0, 5, 6), 6);
        blocks(volume, 0, 5, "5 6 7 8 9 10");
        Due.same("kept", volume.kept(), 1);
        Due.same("flush", Due.writeAndFlush(volume, 0, 11, 1), 1);
        blocks(volume, 0, 11, "11");
        Due.same("kept", volume.kept(), 0);
    }

    /** 24 places behind five: 5 to 7, then 16 from the goal 8 on, then 8 from 24 on for the five, 3 kept. */
    private static void longRow() {
        Buddyfield volume = Volumes.fiveOfEight();
        Due.same("flush", Due.writeAndFlush(volume, 0, 5, 24), 24);
        Due.same("one extent", volume.extent(0, 0), 2900);
        Due.same("kept", volume.kept(), 3);
        Due.same("group 0 is used up", volume.pieces(0, 0), 0);
        Due.writeAndFlush(volume, 0, 29, 4);
        blocks(volume, 0, 29, "29 30 31 32");
        Due.same("kept", volume.kept(), 0);
    }

    /** For 0 to 2 come 8 to 11, with 11 kept for place 3; so 15 and 16 get 5 and 6 as the goal, and 7 is free. */
    private static void foundThenNotKept() {
        Buddyfield volume = Due.withFiles(5);
        Due.writeAndFlush(volume, 0, 10, 5);
        volume.write(0, 15, 2);
        volume.write(0, 0, 3);
        Due.same("flush", volume.flush(0), 5);
        blocks(volume, 0, 0, "8 9 10 -1");
        blocks(volume, 0, 15, "5 6 -1");
        Due.same("kept", volume.kept(), 1);
        Due.same("7", volume.isFree(7), true);
        Due.same("11", volume.isFree(11), false);
        Due.writeAndFlush(volume, 0, 3, 1);
        blocks(volume, 0, 3, "11");
    }

    /** For 0 to 3 come 8 to 11, none too many; so 15 and 16 get the kept 5 and 6, and 7 is kept on. */
    private static void foundThenKept() {
        Buddyfield volume = Due.withFiles(5);
        Due.writeAndFlush(volume, 0, 10, 5);
        volume.write(0, 15, 2);
        volume.write(0, 0, 4);
        Due.same("flush", volume.flush(0), 6);
        blocks(volume, 0, 0, "8 9 10 11");
        blocks(volume, 0, 15, "5 6");
        Due.same("kept", volume.kept(), 1);
        Due.same("7", volume.isFree(7), false);
    }

    /** 3 is kept for place 3; then 7 for 13, and 3 is free; then 11 for 23, and 7 is free. */
    private static void threeRows() {
        Buddyfield volume = Due.withFiles(1);
        volume.write(0, 20, 3);
        volume.write(0, 10, 3);
        volume.write(0, 0, 3);
        Due.same("flush", volume.flush(0), 9);
        blocks(volume, 0, 0, "0 1 2");
        blocks(volume, 0, 10, "4 5 6");
        blocks(volume, 0, 20, "8 9 10");
        Due.same("kept", volume.kept(), 1);
        Due.same("3", volume.isFree(3), true);
        Due.same("7", volume.isFree(7), true);
        Due.same("11", volume.isFree(11), false);
        Due.writeAndFlush(volume, 0, 23, 1);
        Due.writeAndFlush(volume, 0, 3, 1);
        blocks(volume, 0, 23, "11");
        blocks(volume, 0, 3, "3");
    }

    /** 5, 6 and 7 are kept for 64 to 66; 8 to place 0 keeps none; 9 to 12 for 1 to 3 keep 12 instead. */
    private static void behindTheLastPlace() {
        Buddyfield volume = Due.withFiles(1);
        Due.writeAndFlush(volume, 0, 59, 5);
        Due.same("kept", volume.kept(), 3);
        Due.writeAndFlush(volume, 0, 0, 1);
        blocks(volume, 0, 0, "8");
        Due.same("kept", volume.kept(), 3);
        Due.writeAndFlush(volume, 0, 1, 3);
        blocks(volume, 0, 1, "9 10 11");
        Due.same("kept", volume.kept(), 1);
        Due.same("12", volume.isFree(12), false);
        for (int block = 5; block < 8; block++) {
            Due.same("block " + block, volume.isFree(block), true);
        }
    }

    // ---- other files

    /** File 4 has file 0's goal, gets 8 and 9, not 6 and 7, and so file 0's fourth place gets 10. */
    private static void passedOver() {
        Buddyfield volume = Volumes.fiveOfEight();
        Due.writeAndFlush(volume, 4, 0, 2);
        blocks(volume, 4, 0, "8 9");
        Due.same("kept", volume.kept(), 3);
        Due.same("free in group 0", volume.pieces(0, 0), 22);
        Due.writeAndFlush(volume, 0, 5, 4);
        blocks(volume, 0, 5, "5 6 7 10");
        Due.same("kept", volume.kept(), 0);
        Due.same("extents", volume.extents(0), 2);
        Due.same("average", volume.average(0), 4.5f);
    }

    private static void pieceWithKept() {
        Buddyfield volume = Volumes.fiveOfEight();
        Due.same("pieces of 8", volume.pieces(0, 3), 3);
        Due.same("pieces of 4", volume.pieces(0, 2), 6);
        Due.same("pieces of 2", volume.pieces(0, 1), 12);
        Due.writeAndFlush(volume, 4, 0, 16);
        Due.same("16 from 16 on", volume.extent(4, 0), 1616);
        Due.same("pieces of 16", volume.pieces(0, 4), 0);
        Due.writeAndFlush(volume, 4, 20, 16);
        Due.same("16 in the next group", volume.extent(4, 1), 201632);
    }

    /** File 0 has 0 to 4 and keeps 5 to 7, file 4 has 8 to 12 and keeps 13 to 15. */
    private static void twoFilesKeep() {
        Buddyfield volume = Volumes.fiveOfEight();
        Due.writeAndFlush(volume, 4, 0, 5);
        Due.same("kept", volume.kept(), 6);
        Due.writeAndFlush(volume, 4, 5, 1);
        blocks(volume, 4, 5, "13");
        Due.writeAndFlush(volume, 0, 5, 1);
        blocks(volume, 0, 5, "5");
        Due.same("kept", volume.kept(), 4);
        Due.same("no step", volume.cut(0, 6), 0);
        Due.same("those of file 0 are free", volume.kept(), 2);
        Due.writeAndFlush(volume, 0, 6, 1);
        blocks(volume, 0, 6, "6");
        Due.same("those of file 4 stay", volume.kept(), 2);
        Due.writeAndFlush(volume, 4, 6, 2);
        blocks(volume, 4, 6, "14 15");
        Due.same("kept", volume.kept(), 0);
    }

    /**
     * A cut frees 12 of file 0, and 13 to 15 that were kept for it. File 4 gets 12; 13 to 16 are not all
     * free, nor is a piece of four ahead of 20; file 0 has the goal 12, and gets 14 and 15.
     */
    private static void foundBehindACut() {
        Buddyfield volume = Due.withFiles(5);
        Due.writeAndFlush(volume, 0, 0, 13);
        Due.same("13 to 15", volume.kept(), 3);
        Due.writeAndFlush(volume, 4, 0, 1);
        blocks(volume, 4, 0, "16");
        volume.cut(0, 12);
        Due.writeAndFlush(volume, 4, 1, 1);
        blocks(volume, 4, 1, "17");
        Due.writeAndFlush(volume, 4, 20, 1);
        blocks(volume, 4, 20, "12");
        Due.writeAndFlush(volume, 4, 21, 3);
        blocks(volume, 4, 21, "20 21 22");
        Due.same("23", volume.kept(), 1);
        Due.same("13 is free", volume.isFree(13), true);
        Due.writeAndFlush(volume, 0, 12, 2);
        blocks(volume, 0, 12, "14 15");
    }

    /** 8 to 11 are found for 20 to 22, so 5 to 7 become free; file 4 finds 6 and 7, then 5. */
    private static void freedForAnother() {
        Buddyfield volume = Volumes.fiveOfEight();
        Due.writeAndFlush(volume, 0, 20, 3);
        Due.same("11 alone", volume.kept(), 1);
        Due.writeAndFlush(volume, 4, 0, 2);
        blocks(volume, 4, 0, "6 7");
        Due.writeAndFlush(volume, 4, 10, 1);
        blocks(volume, 4, 10, "5");
        Due.writeAndFlush(volume, 0, 5, 1);
        blocks(volume, 0, 5, "12");
        Due.same("11 is kept on", volume.kept(), 1);
    }

    // ---- few blocks left

    /** 120 are free, and file 1 and file 2 reserve all of them; file 3 needs three, so 5 to 7 are free for it. */
    private static void freeThroughAWrite() {
        Buddyfield volume = noneLeftBesideKept();
        Due.same("write", volume.write(3, 0, 3), 3);
        Due.same("kept", volume.kept(), 0);
        Due.same("free", volume.free(), 123);
        Due.same("reserved", volume.reserved(), 123);
        Due.badState(volume, "none left", () -> volume.write(0, 5, 1));
        Due.same("flush", volume.flush(3), 3);
        blocks(volume, 3, 0, "96 97 98");
        Due.same("none is kept", volume.kept(), 0);
        volume.cut(1, 63);
        Due.same("one is left", volume.write(0, 5, 1), 1);
        volume.flush(0);
        Due.same("behind the goal", volume.extent(0, 0), 600);
    }

    private static Buddyfield noneLeftBesideKept() {
        Buddyfield volume = Volumes.fiveOfEight();
        volume.write(1, 0, 64);
        volume.write(2, 0, 56);
        return volume;
    }

    private static void keptThroughARefusal() {
        Buddyfield volume = noneLeftBesideKept();
        Due.badState(volume, "four of three", () -> volume.write(3, 0, 4));
        Due.same("kept", volume.kept(), 3);
        volume.cut(1, 60);
        Due.same("write", volume.write(0, 5, 3), 3);
        Due.same("kept, for four are left", volume.kept(), 3);
        volume.flush(0);
        blocks(volume, 0, 5, "5 6 7");
        Due.same("kept", volume.kept(), 0);
        Due.same("free, as before", volume.free(), 120);
    }

    /**
     * All of the 120 are reserved, six of them by file 0. Three get 5 to 7, so that three are left: for the
     * three that remain 8 to 11 are found, of which one is too many.
     */
    private static void noneLeft() {
        Buddyfield volume = Volumes.fiveOfEight();
        volume.write(1, 0, 64);
        volume.write(2, 0, 50);
        volume.write(0, 5, 6);
        Due.same("none left", volume.free() - volume.reserved(), 0);
        Due.same("kept", volume.kept(), 3);
        Due.same("flush", volume.flush(0), 6);
        blocks(volume, 0, 5, "5 6 7 8 9 10");
        Due.same("kept", volume.kept(), 1);
        Due.same("left", volume.free() - volume.reserved(), 2);
    }

    // ---- cuts, crashes, deletions

    private static void cutBehindTheLastPlace() {
        Buddyfield volume = Volumes.fiveOfEight();
        Due.same("no step", volume.cut(0, 5), 0);
        Due.same("kept", volume.kept(), 0);
        Due.writeAndFlush(volume, 4, 0, 3);
        blocks(volume, 4, 0, "8 9 10");
        Due.writeAndFlush(volume, 4, 10, 2);
        blocks(volume, 4, 10, "6 7");
        Due.writeAndFlush(volume, 0, 5, 2);
        blocks(volume, 0, 5, "12 13");
        Due.same("11 for file 4", volume.kept(), 1);
    }

    /** 6 and 7 are the first aligned pair; 5 is file 0's goal still; then 6 is not free, and 8 is. */
    private static void foundBehindTheStart() {
        Buddyfield volume = Volumes.fiveOfEight();
        volume.crash();
        Due.same("start", volume.start(), 0);
        Due.writeAndFlush(volume, 4, 0, 2);
        blocks(volume, 4, 0, "6 7");
        Due.writeAndFlush(volume, 0, 5, 1);
        blocks(volume, 0, 5, "5");
        Due.writeAndFlush(volume, 0, 6, 1);
        blocks(volume, 0, 6, "8");
        Due.same("kept", volume.kept(), 0);
    }

    private static void toBeDeletedGoesOn() {
        Buddyfield volume = Volumes.fiveOfEight();
        volume.open(0);
        Due.same("delete", volume.delete(0), 0);
        Due.same("kept", volume.kept(), 3);
        Due.same("flush", Due.writeAndFlush(volume, 0, 5, 2), 2);
        blocks(volume, 0, 5, "5 6");
        Due.same("kept", volume.kept(), 1);
        Due.same("close", volume.close(0), 0);
        Due.same("kept", volume.kept(), 0);
        Due.same("free", volume.free(), 128);
    }

    private static void deletionOfAnother() {
        Buddyfield volume = Volumes.fiveOfEight();
        Due.writeAndFlush(volume, 4, 0, 5);
        Due.same("kept", volume.kept(), 6);
        volume.delete(4);
        Due.same("kept", volume.kept(), 3);
        Due.same("free", volume.free(), 120);
        Due.writeAndFlush(volume, 0, 5, 3);
        blocks(volume, 0, 5, "5 6 7");
    }
}
