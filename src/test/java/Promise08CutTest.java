/** Promise 8: cut. */
public final class Promise08CutTest {

    public static void main(String[] args) {
        stepsOfFour();
        stepsKeepToExtents();
        reservedAndKeptBlocks();
        crashesWithin();
        wrongInputs();
        Due.end("promise 8");
    }

    private static void stepsOfFour() {
        Buddyfield volume = Due.withFiles(1);
        Due.same("nothing to cut", volume.cut(0, 0), 0);
        Due.writeAndFlush(volume, 0, 0, 16);
        Due.same("to its size", volume.cut(0, 16), 0);
        Due.same("one place", volume.cut(0, 15), 1);
        Due.same("four places", volume.cut(0, 11), 1);
        Due.same("five places", volume.cut(0, 6), 2);
        Due.same("places", volume.extent(0, 0), 600);
        Due.same("free", volume.free(), 122);
        Due.same("to 64", volume.cut(0, 64), 0);
        Due.same("all", volume.cut(0, 0), 2);
        Due.same("free", volume.free(), 128);
        Due.same("the file stays", volume.files(), 1);
        Due.same("off the list", volume.listed(), 0);
    }

    private static void stepsKeepToExtents() {
        Buddyfield volume = Due.withFiles(1);
        Due.writeAndFlush(volume, 0, 0, 2);
        Due.writeAndFlush(volume, 0, 3, 1);
        Due.writeAndFlush(volume, 0, 6, 4);
        Due.same("blocks", Due.blocks(volume, 0, 0, 10), "0 1 -1 2 -1 -1 4 5 6 7");
        Due.writeAndFlush(volume, 0, 2, 1);
        Due.same("place 2", volume.blockAt(0, 2), 3);
        Due.same("7 to 9, then 6 stays", volume.cut(0, 7), 1);
        Due.same("6, 3, 2, 1", volume.cut(0, 1), 4);
        Due.same("one is left", volume.free(), 127);
    }

    private static void reservedAndKeptBlocks() {
        Buddyfield volume = Due.withFiles(2);
        Due.writeAndFlush(volume, 1, 0, 5);
        Due.writeAndFlush(volume, 0, 0, 5);
        volume.write(0, 10, 5);
        Due.same("cut", volume.cut(0, 12), 0);
        Due.same("reserved ahead of the size stay", Due.blocks(volume, 0, 9, 4), "-1 -2 -2 -1");
        Due.same("reserved", volume.reserved(), 2);
        Due.same("only the other file's are kept", volume.kept(), 3);
        Due.same("free", volume.free(), 115);
        Due.same("cut to 64 frees the kept ones too", volume.cut(1, 64), 0);
        Due.same("kept", volume.kept(), 0);
    }

    private static void crashesWithin() {
        Buddyfield volume = Due.withFiles(2);
        Due.writeAndFlush(volume, 0, 0, 16);
        Due.writeAndFlush(volume, 1, 0, 5);
        volume.open(1);
        volume.write(1, 30, 2);
        volume.crashBehind(2);
        Due.same("crash", volume.cut(0, 4), Buddyfield.NONE);
        Due.same("two steps have come", volume.extent(0, 0), 800);
        Due.same("listed", volume.listed(), 1);
        Due.same("nothing reserved", volume.reserved(), 0);
        Due.same("nothing kept", volume.kept(), 0);
        Due.same("nothing open", volume.opens(1), 0);
        Due.same("what is mapped stays", volume.extent(1, 0), 532);
        Due.same("start", volume.start(), 1);
        Due.same("cut to its size", volume.extent(0, 0), 400);
        volume.crashBehind(1);
        Due.same("crash behind the last step", volume.cut(0, 0), Buddyfield.NONE);
        Due.same("all its places have nothing", volume.extents(0), 0);
        Due.same("but it is listed", volume.listed(), 1);
        Due.same("start", volume.start(), 1);
        Due.same("files", volume.files(), 2);
    }

    private static void wrongInputs() {
        Buddyfield volume = Due.withFiles(1);
        Due.writeAndFlush(volume, 0, 0, 5);
        Due.outOfBounds(volume, "file 1", () -> volume.cut(1, 0));
        Due.outOfBounds(volume, "file -1", () -> volume.cut(-1, 0));
        Due.outOfBounds(volume, "file 16", () -> volume.cut(16, 0));
        Due.outOfBounds(volume, "the file is first", () -> volume.cut(1, 65));
        Due.badArgument(volume, "size -1", () -> volume.cut(0, -1));
        Due.badArgument(volume, "size 65", () -> volume.cut(0, 65));
        volume.crash();
        Due.badState(volume, "down", () -> volume.cut(0, 0));
        Due.badArgument(volume, "down and out of range", () -> volume.cut(0, 65));
        Due.outOfBounds(volume, "down and no such file", () -> volume.cut(1, 0));
    }
}
