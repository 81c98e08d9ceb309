/** Promise 4: close. */
public final class Promise04CloseTest {

    public static void main(String[] args) {
        countsDown();
        lastCloseErasesADeletedFile();
        crashComesWithTheLastClose();
        wrongInputs();
        Due.end("promise 4");
    }

    private static void countsDown() {
        Buddyfield volume = Due.withFiles(1);
        volume.open(0);
        volume.open(0);
        volume.open(0);
        Due.same("close", volume.close(0), 2);
        Due.same("close", volume.close(0), 1);
        Due.writeAndFlush(volume, 0, 0, 5);
        Due.same("last close", volume.close(0), 0);
        Due.same("a file that is not deleted stays", volume.files(), 1);
        Due.same("what is kept stays", volume.kept(), 3);
        Due.same("what is mapped stays", volume.extent(0, 0), 500);
        Due.badState(volume, "not open", () -> volume.close(0));
    }

    private static void lastCloseErasesADeletedFile() {
        Buddyfield volume = Due.withFiles(2);
        volume.open(1);
        volume.open(1);
        Due.writeAndFlush(volume, 1, 0, 5);
        volume.write(1, 20, 4);
        volume.delete(1);
        Due.same("close", volume.close(1), 1);
        Due.same("still there", volume.free(), 120);
        Due.same("last close", volume.close(1), 0);
        Due.same("files", volume.files(), 1);
        Due.same("listed", volume.listed(), 0);
        Due.same("free", volume.free(), 128);
        Due.same("reserved", volume.reserved(), 0);
        Due.same("kept", volume.kept(), 0);
        Due.outOfBounds(volume, "gone", () -> volume.close(1));
    }

    private static void crashComesWithTheLastClose() {
        Buddyfield volume = Due.withFiles(1);
        volume.open(0);
        Due.writeAndFlush(volume, 0, 0, 8);
        volume.delete(0);
        volume.crashBehind(2);
        Due.same("close", volume.close(0), Buddyfield.NONE);
        Due.same("down", volume.isDown(), true);
        Due.same("the file is still there", volume.files(), 1);
        Due.same("and on the list", volume.listed(), 1);
        Due.same("both steps have come", volume.free(), 128);
        Due.same("start", volume.start(), 1);
        Due.same("files", volume.files(), 0);
    }

    private static void wrongInputs() {
        Buddyfield volume = Due.withFiles(1);
        Due.badState(volume, "never opened", () -> volume.close(0));
        Due.outOfBounds(volume, "file 1", () -> volume.close(1));
        Due.outOfBounds(volume, "file -1", () -> volume.close(-1));
        Due.outOfBounds(volume, "file 16", () -> volume.close(16));
        volume.open(0);
        volume.crash();
        Due.badState(volume, "down", () -> volume.close(0));
        Due.outOfBounds(volume, "down and no such file", () -> volume.close(1));
    }
}
