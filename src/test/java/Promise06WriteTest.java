/** Promise 6: write. */
public final class Promise06WriteTest {

    public static void main(String[] args) {
        onlyEmptyPlacesNeedBlocks();
        keptBlocksAreFreedWhenNeeded();
        tooLittleIsLeft();
        keptBlocksStayIfTheyDoNotHelp();
        wrongInputs();
        Due.end("promise 6");
    }

    private static void onlyEmptyPlacesNeedBlocks() {
        Buddyfield volume = Due.withFiles(1);
        Due.same("write", volume.write(0, 10, 4), 4);
        Due.same("ahead", volume.blockAt(0, 9), Buddyfield.NONE);
        Due.same("first", volume.blockAt(0, 10), Buddyfield.RESERVED);
        Due.same("last", volume.blockAt(0, 13), Buddyfield.RESERVED);
        Due.same("behind", volume.blockAt(0, 14), Buddyfield.NONE);
        Due.same("the same again", volume.write(0, 10, 4), 0);
        volume.flush(0);
        Due.same("mapped places need nothing", volume.write(0, 8, 7), 3);
        Due.same("places", Due.blocks(volume, 0, 8, 7), "-2 -2 0 1 2 3 -2");
        Due.same("reserved", volume.reserved(), 3);
        Due.same("free", volume.free(), 124);
        Due.same("all of it", volume.write(0, 0, 64), 57);
        Due.same("the last place alone", volume.write(0, 63, 1), 0);
    }

    private static void keptBlocksAreFreedWhenNeeded() {
        Buddyfield volume = Due.withFiles(3);
        Due.writeAndFlush(volume, 0, 0, 5);
        Due.writeAndFlush(volume, 1, 0, 9);
        Due.same("kept", volume.kept(), 10);
        volume.write(2, 0, 64);
        Due.same("as much as is left", volume.write(1, 9, 40), 40);
        Due.same("kept ones stay", volume.kept(), 10);
        Due.same("none left but the kept", volume.write(0, 5, 10), 10);
        Due.same("all kept are free", volume.kept(), 0);
        Due.same("free", volume.free(), 114);
        Due.same("reserved", volume.reserved(), 114);
        Due.badState(volume, "none left", () -> volume.write(0, 15, 1));
        Due.same("nothing needed", volume.write(0, 0, 15), 0);
    }

    private static void tooLittleIsLeft() {
        Buddyfield volume = Due.withFiles(3);
        volume.write(0, 0, 64);
        volume.write(1, 0, 63);
        Due.badState(volume, "two of one", () -> volume.write(2, 0, 2));
        Due.same("one of one", volume.write(2, 0, 1), 1);
        Due.badState(volume, "one of none", () -> volume.write(2, 1, 1));
        Due.same("flush", volume.flush(0) + volume.flush(1) + volume.flush(2), 128);
        Due.same("free", volume.free(), 0);
    }

    private static void keptBlocksStayIfTheyDoNotHelp() {
        Buddyfield volume = Due.withFiles(3);
        Due.writeAndFlush(volume, 0, 0, 5);
        volume.write(1, 0, 64);
        volume.write(2, 0, 50);
        Due.badState(volume, "ten of six and three", () -> volume.write(2, 50, 10));
        Due.same("kept", volume.kept(), 3);
        Due.same("nine of six and three", volume.write(2, 50, 9), 9);
        Due.same("kept", volume.kept(), 0);
    }

    private static void wrongInputs() {
        Buddyfield volume = Due.withFiles(1);
        Due.outOfBounds(volume, "file 1", () -> volume.write(1, 0, 1));
        Due.outOfBounds(volume, "file -1", () -> volume.write(-1, 0, 1));
        Due.outOfBounds(volume, "file 16", () -> volume.write(16, 0, 1));
        Due.outOfBounds(volume, "the file is first", () -> volume.write(1, -1, 0));
        Due.badArgument(volume, "first -1", () -> volume.write(0, -1, 1));
        Due.badArgument(volume, "first 64", () -> volume.write(0, 64, 1));
        Due.badArgument(volume, "many 0", () -> volume.write(0, 0, 0));
        Due.badArgument(volume, "many 65", () -> volume.write(0, 0, 65));
        Due.badArgument(volume, "place 64", () -> volume.write(0, 1, 64));
        Due.badArgument(volume, "place 64", () -> volume.write(0, 63, 2));
        Due.badArgument(volume, "very many", () -> volume.write(0, 63, Integer.MAX_VALUE));
        Due.badArgument(volume, "very few", () -> volume.write(0, 63, Integer.MIN_VALUE));
        Due.badArgument(volume, "the least first", () -> volume.write(0, Integer.MIN_VALUE, 1));
        Due.badArgument(volume, "the greatest first", () -> volume.write(0, Integer.MAX_VALUE, 64));
        volume.crash();
        Due.badState(volume, "down", () -> volume.write(0, 0, 1));
        Due.badArgument(volume, "down and out of range", () -> volume.write(0, 0, 65));
        Due.outOfBounds(volume, "down and no such file", () -> volume.write(1, 0, 1));
    }
}
