/** A file's number given out again: nothing of the file that had it is left, whichever way that one went. */
final class PromisesMeetNumbersEdges {

    interface End {
        void on(Buddyfield volume);
    }

    private PromisesMeetNumbersEdges() {
    }

    static void tests(Edges edges) {
        edges.promise(2).on("Returns its number: the lowest one that no file has.");
        whicheverWay(edges, "behind a delete", volume -> volume.delete(20));
        whicheverWay(edges, "behind a delete and two closes", PromisesMeetNumbersEdges::openDeleteClose);
        whicheverWay(edges, "behind a delete that a crash ended, and the start", PromisesMeetNumbersEdges::endedDelete);
        whicheverWay(edges, "behind a last close that a crash ended, and the start",
                PromisesMeetNumbersEdges::endedClose);
        whicheverWay(edges, "behind a delete while open, a crash, and the start",
                PromisesMeetNumbersEdges::openDeleteCrash);
        whicheverWay(edges, "behind a cut that a crash ended, the start, and a delete",
                PromisesMeetNumbersEdges::endedCutThenDelete);
        whicheverWay(edges, "behind a cut of a file to be deleted that a crash ended, and the start",
                PromisesMeetNumbersEdges::endedCutOfDeleted);
        edges.test("not while a crash has left the file to be deleted: one needs the start",
                        PromisesMeetNumbersEdges::notBeforeTheStart)
                .test("of a full volume, by the last close of a deleted file", PromisesMeetNumbersEdges::fullVolume)
                .test("of a full volume, by a start that deletes three", PromisesMeetNumbersEdges::fullVolumeStart)
                .test("the same number under three names in turn", PromisesMeetNumbersEdges::threeNames);
        edges.promise(9).on("Tells that a crash comes right behind some step from now on")
                .test("a crash that was told waits on for steps of the file that has the number then",
                        PromisesMeetNumbersEdges::toldAcross);
        edges.promise(11).on("With a start all files on the list, by rising numbers, are cut to their sizes, "
                        + "or deleted, and are off the list.")
                .test("a size that was on the list for the number is not cut to again",
                        PromisesMeetNumbersEdges::oldSize);
    }

    /**
     * File 1 of three, the name 20, with mapped places in two extents, 43 kept for place 13, a reserved place,
     * and open twice; a start has nothing to do with file 2, whose first place is mapped.
     */
    private static Buddyfield usedFile() {
        Buddyfield volume = Volumes.named(10, 20, 30);
        Due.writeAndFlush(volume, 2, 0, 1);
        Due.writeAndFlush(volume, 1, 0, 8);
        Due.writeAndFlush(volume, 1, 10, 3);
        volume.write(1, 40, 1);
        return volume;
    }

    private static void whicheverWay(Edges edges, String way, End end) {
        edges.test(way + ": the number is the lowest again", () -> {
            Buddyfield volume = endedBy(end);
            Due.same("files", volume.files(), 2);
            Due.same("create", volume.create(500), 1);
            Due.same("fileOf", volume.fileOf(500), 1);
            Due.same("fileOf the old name", volume.fileOf(20), Buddyfield.NONE);
            Due.same("create the old name", volume.create(20), 3);
        }).test(way + ": all places have nothing", () -> {
            Buddyfield volume = created(end);
            for (int place = 0; place < 64; place++) {
                Due.same("place " + place, volume.blockAt(1, place), Buddyfield.NONE);
            }
            Due.same("extents", volume.extents(1), 0);
            Due.same("average", volume.average(1), 0.0f);
            Due.same("reserved", volume.reserved(), 0);
            Due.same("free", volume.free(), 127);
            Due.same("freeByFiles", volume.freeByFiles(), 127);
        }).test(way + ": it is not open, nor listed", () -> {
            Buddyfield volume = created(end);
            Due.same("opens", volume.opens(1), 0);
            Due.badState(volume, "close", () -> volume.close(1));
            Due.same("listed", volume.listed(), 0);
        }).test(way + ": closing it does not delete it", () -> {
            Buddyfield volume = created(end);
            volume.open(500);
            Due.same("close", volume.close(1), 0);
            Due.same("files", volume.files(), 3);
            Due.same("fileOf", volume.fileOf(500), 1);
        });
        blocksOfTheNewFile(edges, way, end);
    }

    private static void blocksOfTheNewFile(Edges edges, String way, End end) {
        edges.test(way + ": nothing is kept for it", () -> {
            Buddyfield volume = created(end);
            Due.same("kept", volume.kept(), 0);
            Due.writeAndFlush(volume, 1, 13, 1);
            Due.same("place 13, for which a block was kept, has the first one of the group",
                    volume.blockAt(1, 13), 32);
        }).test(way + ": a crash and a start leave its places", () -> {
            Buddyfield volume = created(end);
            Due.writeAndFlush(volume, 1, 0, 16);
            volume.crash();
            Due.same("start", volume.start(), 0);
            Due.same("extent", volume.extent(1, 0), 1632);
            Due.same("fileOf", volume.fileOf(500), 1);
        }).test(way + ": a crash that was told does not come for it", () -> {
            Buddyfield volume = created(end);
            Due.writeAndFlush(volume, 1, 0, 16);
            Due.same("cut", volume.cut(1, 0), 4);
            Due.same("isDown", volume.isDown(), false);
            Due.same("delete", volume.delete(500), 1);
        });
    }

    private static Buddyfield endedBy(End end) {
        Buddyfield volume = usedFile();
        end.on(volume);
        return volume;
    }

    private static Buddyfield created(End end) {
        Buddyfield volume = endedBy(end);
        volume.create(500);
        return volume;
    }

    // ---- the ways in which a file goes

    private static void openDeleteClose(Buddyfield volume) {
        volume.open(20);
        volume.open(20);
        volume.delete(20);
        Due.same("close", volume.close(1), 1);
        Due.same("close", volume.close(1), 0);
    }

    private static void endedDelete(Buddyfield volume) {
        volume.crashBehind(2);
        Due.same("delete", volume.delete(20), Buddyfield.NONE);
        Due.same("start", volume.start(), 1);
    }

    private static void endedClose(Buddyfield volume) {
        volume.open(20);
        volume.delete(20);
        volume.crashBehind(1);
        Due.same("close", volume.close(1), Buddyfield.NONE);
        Due.same("start", volume.start(), 1);
    }

    private static void openDeleteCrash(Buddyfield volume) {
        volume.open(20);
        volume.open(20);
        volume.delete(20);
        volume.crash();
        Due.same("start", volume.start(), 1);
    }

    private static void endedCutThenDelete(Buddyfield volume) {
        volume.crashBehind(1);
        Due.same("cut", volume.cut(1, 5), Buddyfield.NONE);
        Due.same("start", volume.start(), 1);
        Due.same("delete", volume.delete(20), 1);
    }

    private static void endedCutOfDeleted(Buddyfield volume) {
        volume.open(20);
        volume.delete(20);
        volume.crashBehind(1);
        Due.same("cut", volume.cut(1, 5), Buddyfield.NONE);
        Due.same("start", volume.start(), 1);
    }

    // ---- when a number is given again

    private static void notBeforeTheStart() {
        Buddyfield volume = usedFile();
        volume.crashBehind(3);
        Due.same("behind the last step", volume.delete(20), Buddyfield.NONE);
        Due.same("it has no block any more", volume.free(), 127);
        Due.same("but it is still there", volume.opens(1), 0);
        Due.same("files", volume.files(), 3);
        Due.badState(volume, "create", () -> volume.create(500));
        volume.start();
        Due.outOfBounds(volume, "opens", () -> volume.opens(1));
        Due.same("create", volume.create(500), 1);
    }

    private static void fullVolume() {
        Buddyfield volume = Volumes.full();
        volume.open(112);
        volume.delete(112);
        Due.badState(volume, "create", () -> volume.create(500));
        Due.same("close", volume.close(7), 0);
        Due.same("create", volume.create(500), 7);
        Due.badState(volume, "create", () -> volume.create(501));
        Due.same("files", volume.files(), 16);
        Due.same("its block was free", Due.writeAndFlush(volume, 7, 0, 1), 1);
        Due.same("blockAt", volume.blockAt(7, 0), 97);
    }

    private static void fullVolumeStart() {
        Buddyfield volume = Volumes.full();
        for (int file = 13; file > 0; file -= 4) {
            volume.open(16 * file);
            volume.delete(16 * file);
        }
        Due.same("listed", volume.listed(), 4);
        volume.close(9);
        Due.same("listed", volume.listed(), 3);
        Due.same("create", volume.create(500), 9);
        volume.crash();
        Due.same("start", volume.start(), 3);
        Due.same("create", volume.create(501), 1);
        Due.same("create", volume.create(502), 5);
        Due.same("create", volume.create(503), 13);
        Due.badState(volume, "create", () -> volume.create(504));
        Due.same("fileOf", volume.fileOf(500), 9);
    }

    private static void threeNames() {
        Buddyfield volume = Volumes.named(10, 20);
        for (int name = 100; name < 103; name++) {
            Due.same("create", volume.create(name), 2);
            Due.same("write", Due.writeAndFlush(volume, 2, 0, 5), 5);
            Due.same("extent", volume.extent(2, 0), 564);
            Due.same("kept", volume.kept(), 3);
            Due.same("delete", volume.delete(name), 2);
            Due.same("fileOf", volume.fileOf(name), Buddyfield.NONE);
            Due.same("free", volume.free(), 128);
        }
    }

    /** Deleting file 1 takes three steps, so the fourth is the first one of the file that has its number then. */
    private static void toldAcross() {
        Buddyfield volume = usedFile();
        volume.crashBehind(4);
        Due.same("delete", volume.delete(20), 1);
        Due.same("create", volume.create(500), 1);
        Due.writeAndFlush(volume, 1, 0, 8);
        Due.same("cut", volume.cut(1, 0), Buddyfield.NONE);
        Due.same("extent", volume.extent(1, 0), 432);
        Due.same("start", volume.start(), 1);
        Due.same("extents", volume.extents(1), 0);
        Due.same("fileOf", volume.fileOf(500), 1);
    }

    private static void oldSize() {
        Buddyfield volume = usedFile();
        volume.crashBehind(1);
        volume.cut(1, 2);
        volume.start();
        volume.delete(20);
        volume.create(500);
        Due.writeAndFlush(volume, 1, 0, 8);
        volume.open(500);
        volume.delete(500);
        Due.same("listed", volume.listed(), 1);
        Due.same("extent", volume.extent(1, 0), 832);
        volume.crash();
        Due.same("extent", volume.extent(1, 0), 832);
        Due.same("start", volume.start(), 1);
        Due.same("files", volume.files(), 2);
    }
}
