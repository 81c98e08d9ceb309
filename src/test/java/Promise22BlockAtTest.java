/** Promise 22: blockAt. */
public final class Promise22BlockAtTest {

    public static void main(String[] args) {
        Buddyfield volume = Due.withFiles(2);
        Due.same("nothing", volume.blockAt(1, 0), Buddyfield.NONE);
        volume.write(1, 62, 2);
        Due.same("reserved", volume.blockAt(1, 63), Buddyfield.RESERVED);
        Due.same("nothing", volume.blockAt(1, 61), Buddyfield.NONE);
        volume.flush(1);
        Due.same("mapped", volume.blockAt(1, 63), 33);
        Due.same("another file", volume.blockAt(0, 63), Buddyfield.NONE);
        volume.cut(1, 63);
        Due.same("cut", volume.blockAt(1, 63), Buddyfield.NONE);
        Due.same("not cut", volume.blockAt(1, 62), 32);
        volume.crash();
        Due.same("while down", volume.blockAt(1, 62), 32);
        Due.outOfBounds(volume, "file 2", () -> volume.blockAt(2, 0));
        Due.outOfBounds(volume, "file -1", () -> volume.blockAt(-1, 0));
        Due.outOfBounds(volume, "file 16", () -> volume.blockAt(16, 0));
        Due.outOfBounds(volume, "the file is first", () -> volume.blockAt(2, 64));
        Due.badArgument(volume, "place -1", () -> volume.blockAt(0, -1));
        Due.badArgument(volume, "place 64", () -> volume.blockAt(0, 64));
        Due.end("promise 22");
    }
}
