/** Promise 11: start. */
public final class Promise11StartTest {

    public static void main(String[] args) {
        finishesWhatWasBegun();
        nothingBegun();
        Due.end("promise 11");
    }

    private static void finishesWhatWasBegun() {
        Buddyfield volume = Due.withFiles(5);
        for (int file = 0; file < 5; file++) {
            volume.open(file);
            Due.writeAndFlush(volume, file, 0, 16);
        }
        volume.delete(4);
        volume.delete(1);
        volume.crashBehind(3);
        Due.same("cut", volume.cut(3, 2), Buddyfield.NONE);
        Due.same("listed", volume.listed(), 3);
        Due.same("start", volume.start(), 3);
        Due.same("up", volume.isDown(), false);
        Due.same("listed", volume.listed(), 0);
        Due.same("files", volume.files(), 3);
        Due.same("cut to its size", volume.extent(3, 0), 296);
        Due.same("the others stay", volume.extent(0, 0) + volume.extent(2, 0), 1600 + 1664);
        Due.same("free", volume.free(), 128 - 34);
        Due.outOfBounds(volume, "deleted", () -> volume.opens(1));
        Due.outOfBounds(volume, "deleted", () -> volume.opens(4));
        Due.same("its number is there again", volume.create(77), 1);
    }

    private static void nothingBegun() {
        Buddyfield volume = Due.withFiles(1);
        Due.badState(volume, "not down", volume::start);
        Due.writeAndFlush(volume, 0, 0, 4);
        volume.crash();
        Due.same("start", volume.start(), 0);
        Due.same("the file stays", volume.extent(0, 0), 400);
        Due.badState(volume, "not down any more", volume::start);
        Due.same("writing works again", Due.writeAndFlush(volume, 0, 4, 4), 4);
    }
}
