/** Promise 20. */
final class Promise20Edges {

    private Promise20Edges() {
    }

    static void tests(Edges edges) {
        edges.promise(20);
        edges.on("Returns how many aligned pieces of a length in a group are free.")
                .test("reserved blocks are free", Promise20Edges::reservedAreFree)
                .test("mapped and kept blocks are not", Promise20Edges::mappedAndKeptAreNot)
                .test("while down", () -> Due.same("pieces", Volumes.down().pieces(2, 5), 1));
        edges.on("`group`: 0 to 3")
                .test("0, the smallest: the blocks 0 to 31", () -> groupDue(0, 0))
                .test("1: the blocks 32 to 63", () -> groupDue(1, 32))
                .test("2: the blocks 64 to 95", () -> groupDue(2, 64))
                .test("3, the greatest: the blocks 96 to 127", () -> groupDue(3, 96));
        edges.on("Throws `IndexOutOfBoundsException` if there is no such group");
        for (int group : new int[] {-1, 4, Integer.MIN_VALUE, Integer.MAX_VALUE}) {
            edges.outOfBounds("group " + group, Volumes::busy, volume -> volume.pieces(group, 0))
                    .outOfBounds("group " + group + ", and down", Volumes::down, volume -> volume.pieces(group, 0));
        }
        edges.on("`order`: 0 to 5: the length is 2 to the power of that")
                .test("0, the smallest: single blocks", () -> orderDue(0, 32))
                .test("1: of 2 blocks", () -> orderDue(1, 16))
                .test("2: of 4 blocks", () -> orderDue(2, 8))
                .test("3: of 8 blocks", () -> orderDue(3, 4))
                .test("4: of 16 blocks", () -> orderDue(4, 2))
                .test("5, the greatest: the group", () -> orderDue(5, 1));
        edges.on("Throws `IllegalArgumentException` if order is out of range");
        for (int order : new int[] {-1, 6, 32, 31, Integer.MIN_VALUE, Integer.MAX_VALUE}) {
            edges.badArgument("order " + order, Volumes::busy, volume -> volume.pieces(0, order));
        }
        edges.badArgument("order 6, and down", Volumes::down, volume -> volume.pieces(3, 6));
        edges.on("If several apply, the one that is named first in the throws clause is thrown.")
                .outOfBounds("group 4 and order 6", Volumes::busy, volume -> volume.pieces(4, 6))
                .outOfBounds("group -1 and order -1", Volumes::busy, volume -> volume.pieces(-1, -1));
        edges.on("A piece of 2 to the power of k blocks is aligned if its first block is a multiple of its length.")
                .test("free blocks that are not aligned are no piece", Promise20Edges::notAligned)
                .test("a piece up to the group's end", Promise20Edges::lastPieces)
                .test("none at all in a full group", Promise20Edges::fullGroup);
        edges.on("Returns how many.")
                .test("32, the most, to 0", Promise20Edges::from32To0)
                .test("single blocks, no two of them aligned side by side", Promise20Edges::everyOther);
    }

    private static String piecesOf(Buddyfield volume, int group) {
        StringBuilder text = new StringBuilder();
        for (int order = 0; order < 6; order++) {
            text.append(order == 0 ? "" : " ").append(volume.pieces(group, order));
        }
        return text.toString();
    }

    /** The first and the last block of a group are its own, and no other group's. */
    private static void groupDue(int group, int first) {
        Buddyfield volume = Due.withFiles(4);
        Due.writeAndFlush(volume, group, 0, 32);
        Due.same("first", volume.blockAt(group, 0), first);
        Due.same("last", volume.blockAt(group, 31), first + 31);
        for (int other = 0; other < 4; other++) {
            Due.same("group " + other, piecesOf(volume, other), other == group ? "0 0 0 0 0 0" : "32 16 8 4 2 1");
        }
    }

    private static void orderDue(int order, int want) {
        Buddyfield volume = new Buddyfield();
        for (int group = 0; group < 4; group++) {
            Due.same("pieces", volume.pieces(group, order), want);
        }
    }

    private static void reservedAreFree() {
        Buddyfield volume = Volumes.leaving(0);
        Due.same("group 0", piecesOf(volume, 0), "32 16 8 4 2 1");
    }

    private static void mappedAndKeptAreNot() {
        Buddyfield volume = Due.withFiles(1);
        Due.writeAndFlush(volume, 0, 0, 3);
        Due.same("3 mapped, 1 kept", piecesOf(volume, 0), "28 14 7 3 1 0");
    }

    /** Block 0 mapped: 1 to 31 are free, of which the first 1, 2, 4, 8, 16 are no pieces of 2, 4, .. */
    private static void notAligned() {
        Buddyfield volume = Due.withFiles(1);
        Due.writeAndFlush(volume, 0, 0, 1);
        Due.same("block 0 mapped", piecesOf(volume, 0), "31 15 7 3 1 0");
        Due.writeAndFlush(volume, 0, 1, 2);
        Due.same("1 and 2 mapped", piecesOf(volume, 0), "29 14 7 3 1 0");
        volume.cut(0, 1);
        Due.writeAndFlush(volume, 0, 1, 1);
        Due.same("0 and 1 mapped", piecesOf(volume, 0), "30 15 7 3 1 0");
    }

    private static void lastPieces() {
        Buddyfield volume = Due.withFiles(1);
        Due.writeAndFlush(volume, 0, 0, 16);
        Due.same("16 to 31 are free", piecesOf(volume, 0), "16 8 4 2 1 0");
        Due.writeAndFlush(volume, 0, 16, 8);
        Due.same("24 to 31", piecesOf(volume, 0), "8 4 2 1 0 0");
        Due.writeAndFlush(volume, 0, 24, 4);
        Due.same("28 to 31", piecesOf(volume, 0), "4 2 1 0 0 0");
        Due.writeAndFlush(volume, 0, 28, 2);
        Due.same("30 and 31", piecesOf(volume, 0), "2 1 0 0 0 0");
        Due.writeAndFlush(volume, 0, 30, 1);
        Due.same("31", piecesOf(volume, 0), "1 0 0 0 0 0");
    }

    private static void fullGroup() {
        Buddyfield volume = Due.withFiles(1);
        Due.writeAndFlush(volume, 0, 0, 32);
        Due.same("group 0", piecesOf(volume, 0), "0 0 0 0 0 0");
        Due.same("group 1", piecesOf(volume, 1), "32 16 8 4 2 1");
    }

    private static void from32To0() {
        Buddyfield volume = Due.withFiles(1);
        for (int place = 0; place < 32; place++) {
            Due.same("pieces", volume.pieces(0, 0), 32 - place);
            Due.writeAndFlush(volume, 0, place, 1);
        }
        Due.same("pieces", volume.pieces(0, 0), 0);
    }

    private static void everyOther() {
        Buddyfield volume = Volumes.everyOtherBlock();
        volume.delete(0);
        for (int group = 0; group < 4; group++) {
            Due.same("group " + group, piecesOf(volume, group), "16 0 0 0 0 0");
        }
    }
}
