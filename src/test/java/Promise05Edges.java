/** Promise 5, with the list, and how a name is taken out of its leaf. */
final class Promise05Edges {

    private Promise05Edges() {
    }

    static void tests(Edges edges) {
        edges.promise(5);
        edges.on("Deletes a name.")
                .test("the only one", Promise05Edges::onlyName)
                .test("the other names stay", Promise05Edges::othersStay);
        edges.on("`name`: 0 to 999")
                .test("0, the smallest, is taken", () -> Due.same("delete", Volumes.named(999, 0).delete(0), 1))
                .test("999, the greatest, is taken", () -> Due.same("delete", Volumes.named(999, 0).delete(999), 0));
        edges.on("Throws `IllegalArgumentException` if name is out of range").nameOutOfRange(Buddyfield::delete);
        edges.on("Returns the number of its file")
                .test("0", () -> Due.same("delete", Volumes.full().delete(0), 0))
                .test("15", () -> Due.same("delete", Volumes.full().delete(240), 15))
                .test("also if the file is open", Promise05Edges::numberOfOpenFile);
        edges.on("NONE if a crash has come.")
                .test("in the midst of the steps", () -> deleteWithCrash(1, 124))
                .test("behind the last step", () -> deleteWithCrash(2, 128))
                .test("not if it was told for one step more", Promise05Edges::crashToldForOneStepMore)
                .test("not if there is no step", Promise05Edges::noStepNoCrash)
                .test("not if the file is open, for then no step comes", Promise05Edges::openFileNoCrash);
        edges.on("Throws `IllegalStateException` if there is no such name")
                .badState("no names at all", Buddyfield::new, volume -> volume.delete(0))
                .badState("not among some", Volumes::busy, volume -> volume.delete(80))
                .badState("deleted before", Volumes::withoutFile2, volume -> volume.delete(32))
                .badState("deleted before, its file still open", Volumes::busy, volume -> volume.delete(48));
        edges.on("if the volume is down, for all methods that are named as those that change something")
                .badState("down", Volumes::down, volume -> volume.delete(0))
                .badState("down, and no such name", Volumes::down, volume -> volume.delete(80));
        edges.on("If several apply, the one that is named first in the throws clause is thrown.")
                .nameOutOfRangeWhileDown(Buddyfield::delete);
        theList(edges);
        edges.on("A name that is taken out is only missing in its leaf.")
                .test("an emptied leaf is still there", Promise05Edges::emptiedLeaf)
                .test("the first leaf, emptied, is still looked in", Promise05Edges::emptiedFirstLeaf)
                .test("a leaf of four has room for one more", Promise05Edges::roomInItsLeaf)
                .test("the low hash stays, also without the name that gave it", Promise05Edges::lowHashStays)
                .test("the first, the second, the third, the last one of four", Promise05Edges::eachOfFour);
    }

    private static void theList(Edges edges) {
        edges.on("When a name is deleted, it is taken out, and its file is put on the list, to be deleted.")
                .test("an open file is listed, its name is gone", Promise05Edges::openFileIsListed)
                .test("a start deletes it", Promise05Edges::startDeletes);
        edges.on("If it is not open, or as soon as it is closed for the last time, it is cut to 0, "
                + "and there is no such file any more")
                .test("not open: at once", Promise05Edges::atOnce)
                .test("open once: not yet", () -> notYet(1))
                .test("open twice: not yet", () -> notYet(2))
                .test("opened and closed before: at once", Promise05Edges::openedAndClosedBefore);
        edges.on("a file that is to be deleted stays on the list as that until then, whatever it is cut to")
                .test("cut to 64", () -> cutWhileListed(64, 0))
                .test("cut to 1", () -> cutWhileListed(1, 2))
                .test("cut to 0", () -> cutWhileListed(0, 2))
                .test("a crash within the cut: the start deletes it", Promise05Edges::crashWithinTheCut);
    }

    private static void onlyName() {
        Buddyfield volume = Volumes.named(30);
        Due.same("delete", volume.delete(30), 0);
        Due.same("fileOf", volume.fileOf(30), Buddyfield.NONE);
        Due.same("files", volume.files(), 0);
    }

    private static void othersStay() {
        Buddyfield volume = Volumes.full();
        volume.delete(112);
        for (int file = 0; file < 16; file++) {
            Due.same("fileOf", volume.fileOf(16 * file), file == 7 ? Buddyfield.NONE : file);
        }
        Due.same("files", volume.files(), 15);
        Due.same("free", volume.free(), 113);
    }

    private static void numberOfOpenFile() {
        Buddyfield volume = Volumes.full();
        volume.open(240);
        Due.same("delete", volume.delete(240), 15);
        Due.same("files", volume.files(), 16);
    }

    private static Buddyfield withEightPlaces() {
        Buddyfield volume = Due.withFiles(2);
        Due.writeAndFlush(volume, 0, 0, 8);
        return volume;
    }

    private static void deleteWithCrash(int step, int free) {
        Buddyfield volume = withEightPlaces();
        volume.crashBehind(step);
        Due.same("delete", volume.delete(0), Buddyfield.NONE);
        Due.same("isDown", volume.isDown(), true);
        Due.same("the name is taken out", volume.fileOf(0), Buddyfield.NONE);
        Due.same("the file is still there", volume.files(), 2);
        Due.same("listed", volume.listed(), 1);
        Due.same("free", volume.free(), free);
        Due.same("start", volume.start(), 1);
        Due.same("files", volume.files(), 1);
        Due.same("free", volume.free(), 128);
    }

    private static void crashToldForOneStepMore() {
        Buddyfield volume = withEightPlaces();
        volume.crashBehind(3);
        Due.same("delete", volume.delete(0), 0);
        Due.same("isDown", volume.isDown(), false);
        Due.same("files", volume.files(), 1);
        Due.same("listed", volume.listed(), 0);
    }

    private static void noStepNoCrash() {
        Buddyfield volume = withEightPlaces();
        volume.write(1, 0, 5);
        volume.crashBehind(1);
        Due.same("delete", volume.delete(1), 1);
        Due.same("isDown", volume.isDown(), false);
        Due.same("reserved", volume.reserved(), 0);
    }

    private static void openFileNoCrash() {
        Buddyfield volume = withEightPlaces();
        volume.open(0);
        volume.crashBehind(1);
        Due.same("delete", volume.delete(0), 0);
        Due.same("isDown", volume.isDown(), false);
        Due.same("free", volume.free(), 120);
    }

    private static void openFileIsListed() {
        Buddyfield volume = withEightPlaces();
        volume.open(0);
        volume.delete(0);
        Due.same("fileOf", volume.fileOf(0), Buddyfield.NONE);
        Due.same("listed", volume.listed(), 1);
        Due.same("files", volume.files(), 2);
    }

    private static void startDeletes() {
        Buddyfield volume = withEightPlaces();
        volume.open(0);
        volume.delete(0);
        volume.crash();
        Due.same("start", volume.start(), 1);
        Due.same("files", volume.files(), 1);
        Due.same("free", volume.free(), 128);
        Due.outOfBounds(volume, "no such file", () -> volume.opens(0));
    }

    private static void atOnce() {
        Buddyfield volume = Due.withFiles(2);
        Due.writeAndFlush(volume, 0, 0, 5);
        volume.write(0, 20, 3);
        volume.delete(0);
        Due.same("files", volume.files(), 1);
        Due.same("listed", volume.listed(), 0);
        Due.same("free", volume.free(), 128);
        Due.same("reserved", volume.reserved(), 0);
        Due.same("kept", volume.kept(), 0);
        Due.outOfBounds(volume, "no such file", () -> volume.opens(0));
    }

    private static void notYet(int times) {
        Buddyfield volume = Due.withFiles(2);
        for (int i = 0; i < times; i++) {
            volume.open(0);
        }
        Due.writeAndFlush(volume, 0, 0, 5);
        volume.write(0, 20, 3);
        volume.delete(0);
        Due.same("files", volume.files(), 2);
        Due.same("opens", volume.opens(0), times);
        Due.same("mapped", volume.extent(0, 0), 500);
        Due.same("kept", volume.kept(), 3);
        Due.same("reserved", volume.reserved(), 3);
        Due.same("it can be flushed", volume.flush(0), 3);
    }

    private static void openedAndClosedBefore() {
        Buddyfield volume = withEightPlaces();
        volume.open(0);
        volume.close(0);
        volume.delete(0);
        Due.same("files", volume.files(), 1);
    }

    private static void cutWhileListed(int size, int steps) {
        Buddyfield volume = withEightPlaces();
        volume.open(0);
        volume.delete(0);
        Due.same("cut", volume.cut(0, size), steps);
        Due.same("listed", volume.listed(), 1);
        Due.same("files", volume.files(), 2);
        volume.crash();
        Due.same("start", volume.start(), 1);
        Due.same("files", volume.files(), 1);
        Due.same("free", volume.free(), 128);
    }

    private static void crashWithinTheCut() {
        Buddyfield volume = withEightPlaces();
        volume.open(0);
        volume.delete(0);
        volume.crashBehind(1);
        Due.same("cut", volume.cut(0, 2), Buddyfield.NONE);
        Due.same("listed", volume.listed(), 1);
        Due.same("start", volume.start(), 1);
        Due.same("files", volume.files(), 1);
        Due.same("free", volume.free(), 128);
    }

    private static void emptiedLeaf() {
        Buddyfield volume = Volumes.named(0, 16, 32, 48, 64);
        volume.delete(32);
        volume.delete(48);
        volume.delete(64);
        Due.same("leaves", volume.leaves(), 2);
        Due.same("it is still looked in", volume.looks(64), 2);
        volume.create(48);
        Due.same("and added to", volume.looks(48), 2);
    }

    private static void emptiedFirstLeaf() {
        Buddyfield volume = Volumes.named(0, 16, 32, 48, 64);
        volume.delete(0);
        volume.delete(16);
        Due.same("leaves", volume.leaves(), 2);
        Due.same("looks", volume.looks(32), 2);
        Due.same("fileOf", volume.fileOf(32), 2);
        volume.create(0);
        Due.same("a name of hash 0 goes to the second one", volume.looks(0), 2);
    }

    private static void roomInItsLeaf() {
        Buddyfield volume = Volumes.named(0, 16, 32, 48);
        volume.delete(16);
        volume.create(16);
        Due.same("leaves", volume.leaves(), 1);
        Due.same("fileOf", volume.fileOf(16), 1);
    }

    /** 0, 13 stay; 10, 7 and 1 go; without 10, of hash 2, the low hash 2 is still the leaf's. */
    private static void lowHashStays() {
        Buddyfield volume = Volumes.named(0, 13, 10, 7, 1);
        volume.delete(10);
        volume.create(26);
        volume.create(42);
        Due.same("26, 42, 7, 1 fill the second leaf", volume.leaves(), 2);
        volume.create(16);
        volume.create(32);
        Due.same("and 0, 16, 32, 13 the first one", volume.leaves(), 2);
        volume.create(58);
        Due.same("so 58, of hash 2, splits", volume.leaves(), 3);
    }

    private static void eachOfFour() {
        int[] names = {0, 16, 32, 48};
        for (int gone : names) {
            Buddyfield volume = Volumes.named(names);
            volume.delete(gone);
            for (int file = 0; file < names.length; file++) {
                int want = names[file] == gone ? Buddyfield.NONE : file;
                Due.same("fileOf " + names[file] + " without " + gone, volume.fileOf(names[file]), want);
            }
        }
    }
}
