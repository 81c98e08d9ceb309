/** Promise 20: pieces. */
public final class Promise20PiecesTest {

    public static void main(String[] args) {
        Buddyfield volume = Due.withFiles(4);
        for (int group = 0; group < 4; group++) {
            Due.same("new", piecesOf(volume, group), "32 16 8 4 2 1 ");
        }
        Due.writeAndFlush(volume, 2, 0, 1);
        Due.same("one block", piecesOf(volume, 2), "31 15 7 3 1 0 ");
        Due.same("another group", piecesOf(volume, 1), "32 16 8 4 2 1 ");
        Due.writeAndFlush(volume, 2, 1, 16);
        Due.same("17 blocks", piecesOf(volume, 2), "15 7 3 1 0 0 ");
        Due.writeAndFlush(volume, 1, 0, 5);
        Due.same("5 blocks and 3 kept", piecesOf(volume, 1), "24 12 6 3 1 0 ");
        volume.write(3, 0, 30);
        Due.same("reserved blocks are not chosen", piecesOf(volume, 3), "32 16 8 4 2 1 ");
        volume.flush(3);
        Due.same("30 blocks and 2 kept", piecesOf(volume, 3), "0 0 0 0 0 0 ");
        volume.cut(2, 2);
        Due.same("66 is not aligned for 4", piecesOf(volume, 2), "30 15 7 3 1 0 ");
        volume.crash();
        Due.same("while down", piecesOf(volume, 3), "2 1 0 0 0 0 ");
        Due.outOfBounds(volume, "group -1", () -> volume.pieces(-1, 0));
        Due.outOfBounds(volume, "group 4", () -> volume.pieces(4, 0));
        Due.outOfBounds(volume, "the group is first", () -> volume.pieces(4, 6));
        Due.badArgument(volume, "order -1", () -> volume.pieces(0, -1));
        Due.badArgument(volume, "order 6", () -> volume.pieces(0, 6));
        Due.badArgument(volume, "order 32", () -> volume.pieces(3, 32));
        Due.end("promise 20");
    }

    private static String piecesOf(Buddyfield volume, int group) {
        StringBuilder text = new StringBuilder();
        for (int order = 0; order < 6; order++) {
            text.append(volume.pieces(group, order)).append(' ');
        }
        return text.toString();
    }
}
