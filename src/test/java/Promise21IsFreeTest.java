/** Promise 21: isFree. */
public final class Promise21IsFreeTest {

    public static void main(String[] args) {
        Buddyfield volume = Due.withFiles(4);
        volume.write(3, 0, 32);
        Due.same("reserved ones are free", volume.isFree(96), true);
        volume.flush(3);
        Due.same("block 95", volume.isFree(95), true);
        Due.same("block 96", volume.isFree(96), false);
        Due.same("block 127", volume.isFree(127), false);
        Due.writeAndFlush(volume, 0, 0, 5);
        Due.same("mapped", volume.isFree(4), false);
        Due.same("kept", volume.isFree(5), false);
        Due.same("kept", volume.isFree(7), false);
        Due.same("neither", volume.isFree(8), true);
        volume.cut(0, 4);
        Due.same("cut", volume.isFree(4), true);
        Due.same("kept no more", volume.isFree(7), true);
        Due.same("not cut", volume.isFree(3), false);
        Due.outOfBounds(volume, "block -1", () -> volume.isFree(-1));
        Due.outOfBounds(volume, "block 128", () -> volume.isFree(128));
        Due.outOfBounds(volume, "least", () -> volume.isFree(Integer.MIN_VALUE));
        Due.outOfBounds(volume, "greatest", () -> volume.isFree(Integer.MAX_VALUE));
        Due.end("promise 21");
    }
}
