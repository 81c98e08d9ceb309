/** Promise 10: what a crash does and leaves. */
final class Promise10Edges {

    private Promise10Edges() {
    }

    static void tests(Edges edges) {
        edges.promise(10);
        edges.on("Lets a crash come; one that was told for some step does not come any more.")
                .test("in a new volume", Promise10Edges::inANewVolume)
                .test("told for step 1: it does not come behind the start", () -> toldIsForgotten(1))
                .test("told for step 50: it does not come behind the start", () -> toldIsForgotten(50))
                .test("told anew behind the start: it comes", Promise10Edges::toldAnew);
        edges.on("Throws `IllegalStateException` if the volume is down")
                .badState("down by a crash behind a step", Volumes::down, Buddyfield::crash)
                .badState("down by a crash that was called for", Promise10Edges::crashed, Buddyfield::crash)
                .test("not behind the start", Promise10Edges::againBehindTheStart);
        edges.on("With a crash nothing is reserved or kept any more, no file is open, and the volume is down; "
                + "while it is down, only start() and questions are possible.")
                .test("nothing is reserved", () -> Due.same("reserved", crashed().reserved(), 0))
                .test("reserved places have nothing", Promise10Edges::reservedPlaces)
                .test("nothing is kept", () -> Due.same("kept", crashed().kept(), 0))
                .test("kept blocks are free", Promise10Edges::keptBlocks)
                .test("no file is open", Promise10Edges::noFileIsOpen)
                .test("of file 0 and of file 15, too, nothing is reserved, kept or open",
                        Promise10Edges::firstAndLastFile)
                .test("the volume is down", () -> Due.same("isDown", crashed().isDown(), true))
                .test("what is mapped stays", Promise10Edges::mappedStays)
                .test("files, names and leaves stay", Promise10Edges::namesStay)
                .test("the list stays", () -> Due.same("listed", crashed().listed(), 1))
                .test("questions are answered", Promise10Edges::questionsAreAnswered);
        everyChangeIsRefused(edges);
    }

    private static void everyChangeIsRefused(Edges edges) {
        edges.on("Ahead of the calls create, open, close, delete, write, flush, cut, crashBehind, crash, start "
                + "the interface says: ---- what changes something.")
                .badState("create", Promise10Edges::crashed, volume -> volume.create(80))
                .badState("open", Promise10Edges::crashed, volume -> volume.open(0))
                .badState("close", Promise10Edges::crashed, volume -> volume.close(1))
                .badState("delete", Promise10Edges::crashed, volume -> volume.delete(0))
                .badState("write", Promise10Edges::crashed, volume -> volume.write(0, 50, 1))
                .badState("flush", Promise10Edges::crashed, volume -> volume.flush(0))
                .badState("cut", Promise10Edges::crashed, volume -> volume.cut(0, 0))
                .badState("crashBehind", Promise10Edges::crashed, volume -> volume.crashBehind(1))
                .badState("crash", Promise10Edges::crashed, Buddyfield::crash)
                .test("start is possible", () -> Due.same("start", crashed().start(), 1));
    }

    private static Buddyfield crashed() {
        Buddyfield volume = Volumes.busy();
        volume.crash();
        return volume;
    }

    private static void inANewVolume() {
        Buddyfield volume = new Buddyfield();
        volume.crash();
        Due.same("isDown", volume.isDown(), true);
        Due.same("free", volume.free(), 128);
        Due.same("start", volume.start(), 0);
        Due.same("as new", Due.stateOf(volume), Due.stateOf(new Buddyfield()));
    }

    private static void toldIsForgotten(int steps) {
        Buddyfield volume = Due.withFiles(1);
        volume.crashBehind(steps);
        volume.crash();
        volume.start();
        for (int i = 0; i < 60; i++) {
            Due.writeAndFlush(volume, 0, 0, 1);
            Due.same("cut", volume.cut(0, 0), 1);
        }
    }

    private static void toldAnew() {
        Buddyfield volume = Due.withFiles(1);
        volume.crashBehind(5);
        volume.crash();
        volume.start();
        volume.crashBehind(1);
        Due.writeAndFlush(volume, 0, 0, 1);
        Due.same("cut", volume.cut(0, 0), Buddyfield.NONE);
    }

    private static void againBehindTheStart() {
        Buddyfield volume = crashed();
        volume.start();
        volume.crash();
        Due.same("isDown", volume.isDown(), true);
    }

    private static void reservedPlaces() {
        Buddyfield volume = crashed();
        Due.same("file 2", Due.blocks(volume, 2, 0, 6), "-1 -1 -1 -1 -1 -1");
        Due.same("file 0", Due.blocks(volume, 0, 29, 4), "-1 -1 -1 -1");
    }

    private static void keptBlocks() {
        Buddyfield volume = crashed();
        for (int block : new int[] {5, 6, 7, 41, 42, 43, 44, 45, 46, 47}) {
            Due.same("block " + block, volume.isFree(block), true);
        }
        Due.same("free", volume.free(), 128 - 34);
        Due.same("freeByFiles", volume.freeByFiles(), 128 - 34);
    }

    private static void noFileIsOpen() {
        Buddyfield volume = crashed();
        for (int file = 0; file < 8; file++) {
            Due.same("opens " + file, volume.opens(file), 0);
        }
    }

    private static void firstAndLastFile() {
        Buddyfield volume = Due.withFiles(16);
        for (int file : new int[] {0, 15}) {
            Due.writeAndFlush(volume, file, 0, 5);
            volume.write(file, 20, 2);
            volume.open(file);
        }
        volume.crash();
        Due.same("reserved", volume.reserved(), 0);
        Due.same("kept", volume.kept(), 0);
        Due.same("free", volume.free(), 118);
        for (int file : new int[] {0, 15}) {
            Due.same("opens", volume.opens(file), 0);
            Due.same("place 21", volume.blockAt(file, 21), Buddyfield.NONE);
        }
    }

    private static void mappedStays() {
        Buddyfield volume = crashed();
        Due.same("file 0", volume.extent(0, 0), 500);
        Due.same("file 1", volume.extent(1, 0), 100932);
        Due.same("file 3", volume.extent(3, 0), 2096);
    }

    private static void namesStay() {
        Buddyfield volume = crashed();
        Due.same("files", volume.files(), 8);
        Due.same("leaves", volume.leaves(), 3);
        Due.same("fileOf 35", volume.fileOf(35), 7);
        Due.same("fileOf 48", volume.fileOf(48), Buddyfield.NONE);
    }

    private static void questionsAreAnswered() {
        Buddyfield volume = crashed();
        Due.same("pieces", volume.pieces(2, 5), 1);
        Due.same("isFree", volume.isFree(0), false);
        Due.same("blockAt", volume.blockAt(3, 19), 115);
        Due.same("extents", volume.extents(3), 1);
        Due.same("average", volume.average(3), 20.0f);
        Due.same("looks", volume.looks(16), 1);
    }
}
