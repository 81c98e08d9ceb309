/** Promise 5: delete. */
public final class Promise05DeleteTest {

    public static void main(String[] args) {
        aClosedFileGoesAtOnce();
        anOpenFileStaysOnTheList();
        crashesWithin();
        crashWithAnOpenDeletedFile();
        wrongInputs();
        Due.end("promise 5");
    }

    private static void aClosedFileGoesAtOnce() {
        Buddyfield volume = Due.withFiles(3);
        Due.writeAndFlush(volume, 1, 2, 11);
        volume.write(1, 40, 3);
        Due.same("delete", volume.delete(1), 1);
        Due.same("fileOf", volume.fileOf(1), Buddyfield.NONE);
        Due.same("files", volume.files(), 2);
        Due.same("listed", volume.listed(), 0);
        Due.same("free", volume.free(), 128);
        Due.same("reserved", volume.reserved(), 0);
        Due.same("kept", volume.kept(), 0);
        Due.outOfBounds(volume, "gone", () -> volume.opens(1));
        Due.badState(volume, "twice", () -> volume.delete(1));
    }

    private static void anOpenFileStaysOnTheList() {
        Buddyfield volume = Due.withFiles(2);
        volume.open(0);
        Due.writeAndFlush(volume, 0, 0, 5);
        volume.write(0, 30, 2);
        Due.same("delete", volume.delete(0), 0);
        Due.same("the name is gone", volume.fileOf(0), Buddyfield.NONE);
        Due.same("the file is not", volume.files(), 2);
        Due.same("listed", volume.listed(), 1);
        Due.same("kept", volume.kept(), 3);
        Due.same("reserved", volume.reserved(), 2);
        Due.same("it can be written", volume.write(0, 32, 1), 1);
        Due.same("and flushed", volume.flush(0), 3);
        Due.same("and cut", volume.cut(0, 1), 2);
        Due.same("and stays on the list", volume.listed(), 1);
        Due.same("and there", volume.blockAt(0, 0), 0);
        Due.same("until it is closed", volume.close(0), 0);
        Due.same("files", volume.files(), 1);
        Due.same("free", volume.free(), 128);
    }

    private static void crashesWithin() {
        Buddyfield volume = Due.withFiles(2);
        Due.writeAndFlush(volume, 0, 0, 9);
        volume.crashBehind(2);
        Due.same("crash in the midst", volume.delete(0), Buddyfield.NONE);
        Due.same("the name is taken out", volume.fileOf(0), Buddyfield.NONE);
        Due.same("one place is left", volume.free(), 127);
        Due.same("files", volume.files(), 2);
        Due.same("listed", volume.listed(), 1);
        Due.same("start", volume.start(), 1);
        Due.same("files", volume.files(), 1);
        Due.same("free", volume.free(), 128);
        volume.crashBehind(1);
        Due.same("a file without steps", volume.delete(1), 1);
        Due.same("brings no crash", volume.isDown(), false);
    }

    private static void crashWithAnOpenDeletedFile() {
        Buddyfield volume = Due.withFiles(3);
        volume.open(2);
        Due.writeAndFlush(volume, 2, 0, 12);
        volume.delete(2);
        volume.crashBehind(1);
        Due.same("cut", volume.cut(2, 7), Buddyfield.NONE);
        Due.same("places", volume.extent(2, 0), 864);
        Due.same("start deletes it, it is not cut to 7", volume.start(), 1);
        Due.same("files", volume.files(), 2);
        Due.same("free", volume.free(), 128);
    }

    private static void wrongInputs() {
        Buddyfield volume = Due.withFiles(1);
        Due.badArgument(volume, "name -1", () -> volume.delete(-1));
        Due.badArgument(volume, "name 1000", () -> volume.delete(1000));
        Due.badState(volume, "no such name", () -> volume.delete(1));
        volume.crash();
        Due.badState(volume, "down", () -> volume.delete(0));
        Due.badArgument(volume, "down and out of range", () -> volume.delete(1000));
    }
}
