/** Promise 1, and the constants: a new volume has no files, and all of its blocks are free. */
public final class Promise01NewObjectTest {

    public static void main(String[] args) {
        Buddyfield volume = new Buddyfield();
        Due.same("NONE", Buddyfield.NONE, -1);
        Due.same("RESERVED", Buddyfield.RESERVED, -2);
        Due.same("isDown", volume.isDown(), false);
        Due.same("files", volume.files(), 0);
        Due.same("listed", volume.listed(), 0);
        Due.same("free", volume.free(), 128);
        Due.same("freeByFiles", volume.freeByFiles(), 128);
        Due.same("reserved", volume.reserved(), 0);
        Due.same("kept", volume.kept(), 0);
        Due.same("leaves", volume.leaves(), 1);
        for (int block = 0; block < 128; block++) {
            Due.same("isFree " + block, volume.isFree(block), true);
        }
        for (int file = 0; file < 16; file++) {
            int number = file;
            Due.outOfBounds(volume, "opens " + file, () -> volume.opens(number));
        }
        for (int name = 0; name < 1000; name++) {
            Due.same("fileOf " + name, volume.fileOf(name), Buddyfield.NONE);
            Due.same("looks " + name, volume.looks(name), 1);
        }
        twoObjectsAreApart();
        Due.end("promise 1");
    }

    private static void twoObjectsAreApart() {
        Buddyfield one = Due.withFiles(1);
        Buddyfield other = new Buddyfield();
        String before = Due.stateOf(other);
        Due.writeAndFlush(one, 0, 0, 20);
        one.crash();
        Due.same("another object", Due.stateOf(other), before);
    }
}
