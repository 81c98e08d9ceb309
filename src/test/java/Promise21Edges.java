/** Promise 21. */
final class Promise21Edges {

    private Promise21Edges() {
    }

    static void tests(Edges edges) {
        edges.promise(21);
        edges.on("Tells whether a block is free.").test("while down", Promise21Edges::whileDown);
        edges.on("`block`: 0 to 127")
                .test("0, the smallest", () -> blockDue(0, 0))
                .test("31, the last of group 0", () -> blockDue(0, 31))
                .test("32, the first of group 1", () -> blockDue(1, 0))
                .test("95, the last of group 2", () -> blockDue(2, 31))
                .test("127, the greatest", () -> blockDue(3, 31));
        edges.on("Throws `IndexOutOfBoundsException` if there is no such block");
        for (int block : new int[] {-1, 128, Integer.MIN_VALUE, Integer.MAX_VALUE}) {
            edges.outOfBounds("block " + block, Volumes::busy, volume -> volume.isFree(block))
                    .outOfBounds("block " + block + ", and down", Volumes::down, volume -> volume.isFree(block));
        }
        edges.on("Returns whether it is.")
                .test("a reserved one is: none is chosen yet", Promise21Edges::reserved)
                .test("the last mapped one is not, the one behind is", () -> borderDue(4, 3, 4))
                .test("the last kept one is not, the one behind is", () -> borderDue(5, 7, 8))
                .test("a cut makes it free", Promise21Edges::cut)
                .test("none in a full volume", Promise21Edges::fullVolume);
    }

    /** A file with all blocks of its group, one of which is asked for before and after. */
    private static void blockDue(int group, int offset) {
        Buddyfield volume = Due.withFiles(4);
        int block = 32 * group + offset;
        Due.same("before", volume.isFree(block), true);
        Due.writeAndFlush(volume, group, 0, 32);
        Due.same("mapped", volume.isFree(block), false);
        volume.delete(group);
        Due.same("deleted", volume.isFree(block), true);
    }

    private static void whileDown() {
        Buddyfield volume = Volumes.down();
        Due.same("a mapped one", volume.isFree(4), false);
        Due.same("one that was kept", volume.isFree(5), true);
        Due.same("one that steps have cut", volume.isFree(33), true);
        Due.same("one that they have not", volume.isFree(32), false);
    }

    private static void reserved() {
        Buddyfield volume = Volumes.leaving(0);
        Due.same("block 0", volume.isFree(0), true);
        Due.same("block 127", volume.isFree(127), true);
    }

    private static void borderDue(int places, int last, int behind) {
        Buddyfield volume = Due.withFiles(1);
        Due.writeAndFlush(volume, 0, 0, places);
        Due.same("block " + last, volume.isFree(last), false);
        Due.same("block " + behind, volume.isFree(behind), true);
    }

    private static void cut() {
        Buddyfield volume = Due.withFiles(1);
        Due.writeAndFlush(volume, 0, 0, 4);
        volume.cut(0, 3);
        Due.same("block 3", volume.isFree(3), true);
        Due.same("block 2", volume.isFree(2), false);
    }

    private static void fullVolume() {
        Buddyfield volume = Volumes.allMapped();
        for (int block = 0; block < 128; block++) {
            Due.same("block " + block, volume.isFree(block), false);
        }
    }
}
