/** Promise 2: create. */
public final class Promise02CreateTest {

    public static void main(String[] args) {
        numbersAreTheLowest();
        namesAndRoomAreLimited();
        aNameMayComeBack();
        whileDown();
        Due.end("promise 2");
    }

    private static void numbersAreTheLowest() {
        Buddyfield volume = new Buddyfield();
        Due.same("create 0", volume.create(0), 0);
        Due.same("create 999", volume.create(999), 1);
        Due.same("create 7", volume.create(7), 2);
        Due.same("not open", volume.opens(2), 0);
        Due.same("nothing at a place", volume.blockAt(2, 63), Buddyfield.NONE);
        volume.delete(999);
        volume.delete(0);
        Due.same("the lowest first", volume.create(5), 0);
        Due.same("then the next", volume.create(6), 1);
        Due.same("then behind all", volume.create(8), 3);
        Due.same("files", volume.files(), 4);
    }

    private static void namesAndRoomAreLimited() {
        Buddyfield volume = new Buddyfield();
        Due.badArgument(volume, "name -1", () -> volume.create(-1));
        Due.badArgument(volume, "name 1000", () -> volume.create(1000));
        Due.badArgument(volume, "least name", () -> volume.create(Integer.MIN_VALUE));
        Due.badArgument(volume, "greatest name", () -> volume.create(Integer.MAX_VALUE));
        volume.create(16);
        Due.badState(volume, "the same name", () -> volume.create(16));
        for (int file = 1; file < 16; file++) {
            Due.same("create", volume.create(16 * file + 16), file);
        }
        Due.same("files", volume.files(), 16);
        Due.badState(volume, "a 17th file", () -> volume.create(0));
        Due.badArgument(volume, "range is first", () -> volume.create(1000));
        volume.open(16);
        volume.delete(16);
        Due.badState(volume, "a file to be deleted still has its number", () -> volume.create(0));
        volume.close(0);
        Due.same("room again", volume.create(0), 0);
    }

    private static void aNameMayComeBack() {
        Buddyfield volume = Due.withFiles(2);
        volume.open(0);
        volume.delete(0);
        Due.same("a deleted name, its file still open", volume.create(0), 2);
        Due.same("fileOf", volume.fileOf(0), 2);
        volume.close(0);
        Due.same("the new file stays", volume.fileOf(0), 2);
        Due.writeAndFlush(volume, 2, 3, 4);
        volume.delete(0);
        Due.same("lowest", volume.create(0), 0);
        Due.same("next", volume.create(40), 2);
        Due.same("nothing left from the deleted file", volume.extents(2), 0);
        volume.open(40);
        volume.close(2);
        volume.cut(2, 0);
        Due.same("the new file is not to be deleted", volume.listed(), 0);
        volume.crash();
        volume.start();
        Due.same("nor by a start", volume.fileOf(40), 2);
    }

    private static void whileDown() {
        Buddyfield volume = new Buddyfield();
        volume.crash();
        Due.badState(volume, "down", () -> volume.create(1));
        Due.badArgument(volume, "down and out of range", () -> volume.create(-1));
    }
}
