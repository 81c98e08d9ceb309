/** Promise 7: flush, with the goal, the lengths, the pieces and the blocks that are kept. */
public final class Promise07FlushTest {

    public static void main(String[] args) {
        rowsByRisingPlaces();
        goals();
        goalOutsideTheGroup();
        goalBehindTheLastBlock();
        blocksFromTheGoalOnKeepToItsGroup();
        lengths();
        piecesOfOtherGroups();
        halfTheLength();
        singleBlocks();
        keptBlocksAreUsed();
        keptBlocksAreUsedOneByOne();
        keptBlocksAreReplaced();
        keptBlocksBehindTheLastPlace();
        littleIsLeft();
        wrongInputs();
        Due.end("promise 7");
    }

    private static void rowsByRisingPlaces() {
        Buddyfield volume = Due.withFiles(1);
        Due.same("nothing to do", volume.flush(0), 0);
        volume.write(0, 20, 2);
        volume.write(0, 3, 1);
        volume.write(0, 9, 2);
        Due.same("flush", volume.flush(0), 5);
        Due.same("first row", volume.blockAt(0, 3), 0);
        Due.same("second row", Due.blocks(volume, 0, 9, 2), "2 3");
        Due.same("third row", Due.blocks(volume, 0, 20, 2), "4 5");
        Due.same("reserved", volume.reserved(), 0);
        Due.same("free", volume.free(), 123);
        Due.same("nothing to do again", volume.flush(0), 0);
    }

    private static void goals() {
        Buddyfield volume = Due.withFiles(7);
        Due.writeAndFlush(volume, 6, 5, 2);
        Due.same("first of the group of the number modulo 4", Due.blocks(volume, 6, 5, 2), "64 65");
        Due.writeAndFlush(volume, 6, 7, 4);
        Due.same("behind the place ahead, not aligned", Due.blocks(volume, 6, 7, 4), "66 67 68 69");
        Due.writeAndFlush(volume, 6, 4, 1);
        Due.same("the place ahead has nothing", volume.blockAt(6, 4), 70);
        Due.writeAndFlush(volume, 3, 0, 1);
        Due.same("group 3", volume.blockAt(3, 0), 96);
        Due.writeAndFlush(volume, 0, 63, 1);
        Due.same("group 0", volume.blockAt(0, 63), 0);
    }

    private static void goalOutsideTheGroup() {
        Buddyfield volume = Due.withFiles(4);
        Due.writeAndFlush(volume, 3, 0, 32);
        Due.same("all of group 3", volume.extent(3, 0), 3296);
        Due.writeAndFlush(volume, 3, 32, 1);
        Due.same("behind 127: first of group 3, and on to group 0", volume.blockAt(3, 32), 0);
        Due.writeAndFlush(volume, 0, 0, 16);
        Due.same("piece of group 0", volume.extent(0, 0), 1616);
        Due.writeAndFlush(volume, 0, 16, 2);
        Due.same("behind 31: the next group", volume.extent(0, 0), 1816);
        Due.same("blocks", Due.blocks(volume, 0, 15, 3), "31 32 33");
        Due.writeAndFlush(volume, 2, 0, 30);
        Due.writeAndFlush(volume, 2, 30, 1);
        Due.same("kept for it", volume.blockAt(2, 30), 94);
    }

    private static void goalBehindTheLastBlock() {
        Buddyfield volume = Due.withFiles(7);
        Due.writeAndFlush(volume, 6, 0, 16);
        Due.writeAndFlush(volume, 3, 0, 16);
        Due.writeAndFlush(volume, 2, 0, 32);
        Due.same("the last half of group 2 and of group 3", volume.extent(2, 1), 161612);
        volume.delete(6);
        Due.writeAndFlush(volume, 2, 32, 1);
        Due.same("128 is no goal, so group 2, and not group 0", volume.blockAt(2, 32), 64);
    }

    private static void blocksFromTheGoalOnKeepToItsGroup() {
        Buddyfield volume = Due.withFiles(7);
        Due.writeAndFlush(volume, 6, 0, 4);
        Due.writeAndFlush(volume, 2, 0, 4);
        Due.writeAndFlush(volume, 2, 4, 16);
        Due.writeAndFlush(volume, 2, 20, 6);
        volume.cut(2, 26);
        Due.same("up to 93", Due.blocks(volume, 2, 25, 2), "93 -1");
        Due.writeAndFlush(volume, 2, 26, 4);
        Due.same("94 to 97 are free, but in two groups", Due.blocks(volume, 2, 26, 4), "96 97 98 99");
        volume.cut(2, 26);
        volume.delete(6);
        Due.writeAndFlush(volume, 2, 26, 2);
        Due.same("94 and 95 end the group", Due.blocks(volume, 2, 26, 2), "94 95");
    }

    private static void lengths() {
        lengthOf(1, 1);
        lengthOf(2, 2);
        lengthOf(3, 4);
        lengthOf(4, 4);
        lengthOf(5, 8);
        lengthOf(8, 8);
        lengthOf(9, 16);
        lengthOf(16, 16);
        lengthOf(17, 17);
        lengthOf(19, 20);
        lengthOf(33, 33);
        lengthOf(64, 64);
    }

    private static void lengthOf(int places, int blocks) {
        Buddyfield volume = Due.withFiles(1);
        Due.same("flush of " + places, Due.writeAndFlush(volume, 0, 0, places), places);
        Due.same("kept of " + places, volume.kept(), blocks - places);
        Due.same("free of " + places, volume.free(), 128 - blocks);
        Due.same("extents of " + places, volume.extents(0), 1);
    }

    private static void piecesOfOtherGroups() {
        Buddyfield volume = Due.withFiles(3);
        Due.writeAndFlush(volume, 2, 0, 64);
        Due.same("groups 2 and 3", volume.extent(2, 0), 6464);
        Due.writeAndFlush(volume, 0, 0, 1);
        Due.writeAndFlush(volume, 2, 0, 64);
        volume.cut(2, 48);
        Due.writeAndFlush(volume, 1, 0, 32);
        Due.same("group 1", volume.extent(1, 0), 3232);
        Due.writeAndFlush(volume, 1, 40, 16);
        Due.same("behind group 1: group 3", Due.blocks(volume, 1, 40, 2), "112 113");
        Due.writeAndFlush(volume, 1, 56, 8);
        Due.same("0 behind 3", Due.blocks(volume, 1, 55, 3), "127 8 9");
    }

    private static void halfTheLength() {
        Buddyfield volume = Due.withFiles(8);
        for (int group = 0; group < 4; group++) {
            Due.writeAndFlush(volume, group, 0, 16);
            volume.write(group, 16, 4);
            volume.write(group + 4, group, 1);
            volume.flush(group + 4);
            volume.flush(group);
        }
        Due.same("no piece of 16", volume.pieces(0, 4) + volume.pieces(1, 4), 0);
        Due.same("places of file 0", volume.extents(0), 2);
        Due.same("a piece of 8", volume.pieces(0, 3), 1);
        int before = volume.free();
        Due.same("flush", Due.writeAndFlush(volume, 0, 40, 9), 9);
        Due.same("8, then 1 behind it, not kept", volume.kept() + before - volume.free(), 9);
        Due.same("behind 31 is group 1", Due.blocks(volume, 0, 40, 9), "24 25 26 27 28 29 30 31 49");
    }

    /** Two files take turns at single blocks; without one of them, no two free ones are side by side. */
    private static void singleBlocks() {
        Buddyfield volume = Due.withFiles(13);
        for (int place = 0; place < 64; place++) {
            Due.writeAndFlush(volume, place % 2 * 4, place, 1);
        }
        for (int place = 0; place < 64; place++) {
            Due.writeAndFlush(volume, 8 + place % 2 * 4, place, 1);
        }
        Due.same("all blocks", volume.free(), 0);
        volume.delete(4);
        volume.delete(12);
        Due.same("no two side by side", volume.pieces(0, 0) + volume.pieces(0, 1), 16);
        Due.writeAndFlush(volume, 1, 0, 2);
        Due.same("two single blocks", Due.blocks(volume, 1, 0, 2), "33 35");
        Due.same("kept", volume.kept(), 0);
    }

    private static void keptBlocksAreUsedOneByOne() {
        Buddyfield volume = Due.withFiles(1);
        Due.writeAndFlush(volume, 0, 0, 9);
        Due.writeAndFlush(volume, 0, 9, 2);
        Due.same("kept", volume.kept(), 5);
        Due.writeAndFlush(volume, 0, 11, 1);
        Due.same("kept", volume.kept(), 4);
        Due.writeAndFlush(volume, 0, 8, 4);
        Due.same("nothing new", volume.kept(), 4);
        Due.writeAndFlush(volume, 0, 10, 4);
        Due.same("the two next ones", volume.kept(), 2);
        Due.writeAndFlush(volume, 0, 14, 1);
        Due.same("all of one extent", volume.extent(0, 0), 1500);
        Due.same("kept", volume.kept(), 1);
    }

    private static void keptBlocksAreUsed() {
        Buddyfield volume = Due.withFiles(1);
        Due.writeAndFlush(volume, 0, 0, 9);
        Due.same("kept", volume.kept(), 7);
        Due.writeAndFlush(volume, 0, 10, 1);
        Due.same("the second place is not the first one kept for", volume.blockAt(0, 10), 16);
        Due.writeAndFlush(volume, 0, 9, 1);
        Due.same("the first one", volume.blockAt(0, 9), 9);
        Due.same("kept", volume.kept(), 6);
        Due.same("free", volume.free(), 111);
        volume.cut(0, 9);
        Due.writeAndFlush(volume, 0, 9, 9);
        Due.same("none is kept any more, so 16 from the goal on", Due.blocks(volume, 0, 8, 3), "8 9 10");
        Due.same("kept anew", volume.kept(), 7);
        volume.delete(0);
        volume.create(0);
        Due.writeAndFlush(volume, 0, 0, 13);
        Due.writeAndFlush(volume, 0, 13, 5);
        Due.same("three kept ones and two more behind them", volume.extent(0, 0), 1800);
        Due.same("kept", volume.kept(), 0);
    }

    private static void keptBlocksAreReplaced() {
        Buddyfield volume = Due.withFiles(1);
        Due.writeAndFlush(volume, 0, 0, 5);
        Due.writeAndFlush(volume, 0, 20, 3);
        Due.same("others are kept instead", volume.kept(), 1);
        Due.same("blocks", Due.blocks(volume, 0, 20, 3), "8 9 10");
        Due.same("5 is free", volume.isFree(5), true);
        Due.same("11 is kept", volume.isFree(11), false);
        Due.writeAndFlush(volume, 0, 5, 1);
        Due.same("behind the place ahead", volume.blockAt(0, 5), 5);
        Due.same("still kept", volume.kept(), 1);
        Due.writeAndFlush(volume, 0, 23, 1);
        Due.same("for place 23", volume.blockAt(0, 23), 11);
        Due.same("no more", volume.kept(), 0);
        Due.writeAndFlush(volume, 0, 40, 3);
        Due.writeAndFlush(volume, 0, 30, 3);
        volume.write(0, 33, 1);
        volume.flush(0);
        Due.same("behind the one mapped last, not behind the greatest",
                volume.blockAt(0, 33), volume.blockAt(0, 32) + 1);
        Due.same("of those kept", volume.kept(), 0);
    }

    private static void keptBlocksBehindTheLastPlace() {
        Buddyfield volume = Due.withFiles(1);
        Due.writeAndFlush(volume, 0, 61, 3);
        Due.same("kept for place 64", volume.kept(), 1);
        Due.writeAndFlush(volume, 0, 0, 1);
        Due.same("not for place 0", volume.blockAt(0, 0), 4);
        Due.same("kept", volume.kept(), 1);
    }

    private static void littleIsLeft() {
        Buddyfield volume = Due.withFiles(3);
        volume.write(1, 0, 64);
        volume.write(2, 0, 56);
        volume.write(0, 0, 5);
        Due.same("five with three left", volume.flush(0), 5);
        Due.same("kept", volume.kept(), 3);
        volume.cut(0, 0);
        volume.write(0, 0, 6);
        volume.write(0, 63, 1);
        Due.same("seven with one left", volume.flush(0), 7);
        Due.same("none kept, so four and two and one", volume.kept(), 0);
        Due.same("blocks", Due.blocks(volume, 0, 0, 6), "0 1 2 3 4 5");
        Due.same("the rest", volume.flush(1) + volume.flush(2), 120);
        Due.same("free", volume.free(), 1);
        keptOnesDoNotCountAsLeft();
    }

    private static void keptOnesDoNotCountAsLeft() {
        Buddyfield volume = Due.withFiles(3);
        Due.writeAndFlush(volume, 0, 0, 5);
        volume.write(1, 0, 64);
        volume.write(2, 0, 52);
        volume.write(0, 20, 3);
        Due.same("flush", volume.flush(0), 3);
        Due.same("one left: one is kept instead of three", volume.kept(), 1);
        volume.write(0, 40, 3);
        Due.same("left", volume.free() - volume.reserved(), 0);
        Due.same("flush", volume.flush(0), 3);
        Due.same("none left: those kept before stay", volume.kept(), 1);
        Due.same("blocks", Due.blocks(volume, 0, 40, 3), "6 7 5");
    }

    private static void wrongInputs() {
        Buddyfield volume = Due.withFiles(1);
        volume.write(0, 0, 3);
        Due.outOfBounds(volume, "file 1", () -> volume.flush(1));
        Due.outOfBounds(volume, "file -1", () -> volume.flush(-1));
        Due.outOfBounds(volume, "file 16", () -> volume.flush(16));
        volume.crash();
        Due.badState(volume, "down", () -> volume.flush(0));
        Due.outOfBounds(volume, "down and no such file", () -> volume.flush(1));
    }
}
