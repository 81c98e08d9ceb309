/** Promises 16 to 19: free, freeByFiles, reserved and kept. */
public final class Promise16To19CountsTest {

    private static Buddyfield volume = Due.withFiles(2);

    public static void main(String[] args) {
        counts("new", 128, 0, 0);
        volume.write(0, 0, 9);
        counts("written", 128, 9, 0);
        volume.write(1, 0, 3);
        counts("written", 128, 12, 0);
        volume.flush(0);
        counts("flushed: 9 mapped, 7 kept", 112, 3, 7);
        volume.flush(1);
        counts("flushed: 3 mapped, 1 kept", 108, 0, 8);
        Due.writeAndFlush(volume, 0, 9, 2);
        counts("two kept ones are mapped", 108, 0, 6);
        volume.cut(0, 10);
        counts("one cut, none kept for file 0", 114, 0, 1);
        volume.write(1, 10, 4);
        volume.delete(1);
        counts("deleted", 118, 0, 0);
        Due.writeAndFlush(volume, 0, 20, 5);
        volume.write(0, 40, 5);
        counts("written again", 110, 5, 3);
        volume.crash();
        counts("crashed", 113, 0, 0);
        volume.start();
        counts("started", 113, 0, 0);
        Due.end("promises 16 to 19");
    }

    private static void counts(String when, int free, int reserved, int kept) {
        Due.same(when + ": free", volume.free(), free);
        Due.same(when + ": freeByFiles", volume.freeByFiles(), free);
        Due.same(when + ": reserved", volume.reserved(), reserved);
        Due.same(when + ": kept", volume.kept(), kept);
    }
}
