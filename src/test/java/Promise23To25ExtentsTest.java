/** Promises 23 to 25: extents, extent and average. */
public final class Promise23To25ExtentsTest {

    public static void main(String[] args) {
        Buddyfield volume = Due.withFiles(4);
        Due.same("no extents", volume.extents(3), 0);
        Due.same("no average", volume.average(3), 0.0f);
        Due.outOfBounds(volume, "no extent", () -> volume.extent(3, 0));
        volume.write(3, 5, 3);
        Due.same("reserved places are in none", volume.extents(3), 0);
        volume.flush(3);
        Due.same("one", volume.extents(3), 1);
        Due.same("blocks 96 to 98", volume.extent(3, 0), 50396);
        Due.writeAndFlush(volume, 3, 8, 3);
        Due.same("on with 99, then 100 and 101", volume.extent(3, 0), 50696);
        Due.same("average", volume.average(3), 6.0f);
        volume.cut(3, 11);
        Due.writeAndFlush(volume, 3, 12, 1);
        Due.same("with a gap of places", volume.extents(3), 2);
        Due.same("block 102 modulo 100", volume.extent(3, 1), 120102);
        Due.same("average", volume.average(3), 3.5f);
        Due.writeAndFlush(volume, 3, 11, 1);
        Due.same("with a gap of blocks", volume.extents(3), 3);
        Due.same("block 103", volume.extent(3, 1), 110103);
        Due.same("the next one", volume.extent(3, 2), 120102);
        Due.same("average", volume.average(3), 8.0f / 3.0f);
        volume.write(0, 0, 64);
        volume.flush(0);
        Due.same("64 places", volume.extent(0, 0), 6400);
        Due.same("average of 64", volume.average(0), 64.0f);
        volume.crash();
        Due.same("while down", volume.extent(3, 1), 110103);
        wrongInputs(volume);
        Due.end("promises 23 to 25");
    }

    private static void wrongInputs(Buddyfield volume) {
        Due.outOfBounds(volume, "extent 3 of 3", () -> volume.extent(3, 3));
        Due.outOfBounds(volume, "extent -1", () -> volume.extent(3, -1));
        Due.outOfBounds(volume, "least extent", () -> volume.extent(3, Integer.MIN_VALUE));
        Due.outOfBounds(volume, "greatest extent", () -> volume.extent(3, Integer.MAX_VALUE));
        for (int file : new int[] {-1, 4, 15, 16, Integer.MIN_VALUE, Integer.MAX_VALUE}) {
            Due.outOfBounds(volume, "extents " + file, () -> volume.extents(file));
            Due.outOfBounds(volume, "extent " + file, () -> volume.extent(file, 0));
            Due.outOfBounds(volume, "average " + file, () -> volume.average(file));
        }
    }
}
