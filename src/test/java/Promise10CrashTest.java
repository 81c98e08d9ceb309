/** Promise 10: crash. */
public final class Promise10CrashTest {

    public static void main(String[] args) {
        Buddyfield volume = Due.withFiles(3);
        volume.open(0);
        volume.open(0);
        volume.open(2);
        Due.writeAndFlush(volume, 0, 0, 5);
        volume.write(0, 50, 6);
        volume.write(1, 0, 4);
        volume.delete(2);
        volume.crashBehind(1);
        volume.crash();
        Due.same("down", volume.isDown(), true);
        Due.same("reserved", volume.reserved(), 0);
        Due.same("reserved places have nothing", Due.blocks(volume, 1, 0, 4), "-1 -1 -1 -1");
        Due.same("kept", volume.kept(), 0);
        Due.same("kept blocks are free", volume.isFree(5), true);
        Due.same("free", volume.free(), 123);
        Due.same("freeByFiles", volume.freeByFiles(), 123);
        Due.same("not open", volume.opens(0) + volume.opens(2), 0);
        Due.same("what is mapped stays", volume.extent(0, 0), 500);
        Due.same("names stay", volume.fileOf(1), 1);
        Due.same("files stay", volume.files(), 3);
        Due.same("the list stays", volume.listed(), 1);
        Due.badState(volume, "down already", volume::crash);
        Due.same("start", volume.start(), 1);
        Due.same("the told crash does not come any more", volume.cut(0, 0), 2);
        volume.crash();
        Due.same("down again", volume.isDown(), true);
        Due.end("promise 10");
    }
}
