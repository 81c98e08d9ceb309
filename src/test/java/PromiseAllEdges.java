/** Sentences of the Terms that hold for all promises: which exception is due, and what a call leaves as it was. */
final class PromiseAllEdges {

    private static final int FILES = 16;

    private PromiseAllEdges() {
    }

    static void tests(Edges edges) {
        edges.promise(Document.TERMS);
        edges.on("IndexOutOfBoundsException: there is no such file, block, group or extent.")
                .outOfBounds("file", Volumes::busy, volume -> volume.opens(8))
                .outOfBounds("block", Volumes::busy, volume -> volume.isFree(128))
                .outOfBounds("group", Volumes::busy, volume -> volume.pieces(4, 0))
                .outOfBounds("extent", Volumes::busy, volume -> volume.extent(0, 1));
        edges.on("IllegalArgumentException: another argument is out of its range.")
                .badArgument("name", Volumes::busy, volume -> volume.open(1000))
                .badArgument("first", Volumes::busy, volume -> volume.write(0, 64, 1))
                .badArgument("many", Volumes::busy, volume -> volume.write(0, 0, 65))
                .badArgument("size", Volumes::busy, volume -> volume.cut(0, 65))
                .badArgument("steps", Volumes::busy, volume -> volume.crashBehind(51))
                .badArgument("order", Volumes::busy, volume -> volume.pieces(0, 6))
                .badArgument("place", Volumes::busy, volume -> volume.blockAt(0, 64));
        edges.on("A call that throws changes nothing.")
                .test("many refused calls, one behind the other", () -> manyRefused(false))
                .test("the same while down", () -> manyRefused(true));
        edges.on("Ahead of the calls isDown, files, listed, opens, free, freeByFiles, reserved, kept, pieces, isFree, "
                + "blockAt, extents, extent, average, fileOf, leaves, looks the interface says: ---- questions.")
                .test("they change nothing", () -> asked(Volumes.busy(), Volumes.busy()))
                .test("they change nothing while down", () -> asked(Volumes.down(), Volumes.down()));
    }

    private static void manyRefused(boolean down) {
        Buddyfield touched = down ? Volumes.down() : Volumes.busy();
        Buddyfield untouched = down ? Volumes.down() : Volumes.busy();
        refuseMany(touched);
        Due.same("state", Due.stateOf(touched), Due.stateOf(untouched));
        Due.same("state behind later calls", useOn(touched), useOn(untouched));
    }

    private static void refuseMany(Buddyfield volume) {
        for (int wrong : new int[] {Integer.MIN_VALUE, -1, 1000, Integer.MAX_VALUE}) {
            Due.badArgument(volume, "create", () -> volume.create(wrong));
            Due.badArgument(volume, "open", () -> volume.open(wrong));
            Due.outOfBounds(volume, "close", () -> volume.close(wrong));
            Due.badArgument(volume, "delete", () -> volume.delete(wrong));
            Due.outOfBounds(volume, "write", () -> volume.write(wrong, 0, 1));
            Due.badArgument(volume, "write", () -> volume.write(0, wrong, 1));
            Due.badArgument(volume, "write", () -> volume.write(0, 0, wrong));
            Due.outOfBounds(volume, "flush", () -> volume.flush(wrong));
            Due.outOfBounds(volume, "cut", () -> volume.cut(wrong, 0));
            Due.badArgument(volume, "cut", () -> volume.cut(0, wrong));
            Due.badArgument(volume, "crashBehind", () -> volume.crashBehind(wrong == -1 ? 0 : wrong));
        }
        Due.badState(volume, "create", () -> volume.create(0));
        Due.badState(volume, "open", () -> volume.open(48));
        Due.badState(volume, "close", () -> volume.close(0));
        Due.badState(volume, "delete", () -> volume.delete(48));
    }

    /** What was asked of one of two volumes must not show when both are used. */
    private static void asked(Buddyfield asked, Buddyfield other) {
        String first = Due.stateOf(asked);
        Due.same("the same answers again", Due.stateOf(asked), first);
        Due.same("state behind later calls", useOn(asked), useOn(other));
    }

    private static String useOn(Buddyfield volume) {
        StringBuilder answers = new StringBuilder();
        if (volume.isDown()) {
            answers.append(volume.start());
        }
        for (int file = 0; file < FILES && !volume.isDown(); file++) {
            if (isFile(volume, file)) {
                answers.append(' ').append(Due.writeAndFlush(volume, file, 5, 3));
                answers.append(' ').append(volume.cut(file, 2));
            }
        }
        return answers.append('\n').append(Due.stateOf(volume)).toString();
    }

    private static boolean isFile(Buddyfield volume, int file) {
        try {
            return volume.opens(file) >= 0;
        } catch (IndexOutOfBoundsException e) {
            return false;
        }
    }
}
