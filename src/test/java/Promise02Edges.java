/**
 * Promise 2, and how a name is added to the leaves. Of the names that stand here, 0, 16, 32 .. have the
 * hash 0; 13, 29, 45 .. have 1; 10, 26, 42 .. have 2; 7, 23, 39 .. have 3; 4 has 4; 1, 17, 33 .. have 5.
 */
final class Promise02Edges {

    private Promise02Edges() {
    }

    static void tests(Edges edges) {
        edges.promise(2);
        edges.on("Makes a file.")
                .test("it is not open, not listed, and has nothing at its places", Promise02Edges::newFile);
        edges.on("`name`: 0 to 999")
                .test("0, the smallest, is taken", () -> Due.same("create", new Buddyfield().create(0), 0))
                .test("999, the greatest, is taken", () -> Due.same("create", new Buddyfield().create(999), 0));
        edges.on("Throws `IllegalArgumentException` if name is out of range").nameOutOfRange(Buddyfield::create);
        edges.on("Returns its number: the lowest one that no file has.")
                .test("0 for the first", () -> Due.same("create", new Buddyfield().create(5), 0))
                .test("15 for the 16th", () -> Due.same("create", Due.withFiles(15).create(15), 15))
                .test("the lower of two that were deleted", Promise02Edges::lowerVacantNumber)
                .test("0 and 15, deleted from a full volume", Promise02Edges::firstAndLastNumberAgain)
                .test("not that of an open file whose name is deleted", Promise02Edges::numberOfDoomedFile)
                .test("nothing of the file that had the number is left", Promise02Edges::nothingIsLeftOver);
        edges.on("Throws `IllegalStateException` if there is such a name, or there are 16 files")
                .test("the 16th file is taken", () -> Due.same("files", Volumes.full().files(), 16))
                .badState("a 17th file (and its leaf is full, but is not split)", Volumes::full,
                        volume -> volume.create(256))
                .badState("16 files, of which one is to be deleted", Promise02Edges::fullWithDoomed,
                        volume -> volume.create(256))
                .badState("the name of the first file", Volumes::busy, volume -> volume.create(0))
                .badState("the name of the last file", Volumes::busy, volume -> volume.create(35))
                .badState("such a name, whose leaf is full, but is not split", () -> Volumes.named(0, 16, 32, 48),
                        volume -> volume.create(48))
                .badState("such a name, and 16 files", Volumes::full, volume -> volume.create(0))
                .test("a name that was deleted is taken", Promise02Edges::deletedName)
                .test("a name that was deleted is taken while its file is open", Promise02Edges::nameOfDoomedFile);
        edges.on("if the volume is down, for all methods that are named as those that change something")
                .badState("down", Volumes::down, volume -> volume.create(80));
        edges.on("If several apply, the one that is named first in the throws clause is thrown.")
                .nameOutOfRangeWhileDown(Buddyfield::create)
                .badArgument("name 1000, and 16 files", Volumes::full, volume -> volume.create(1000));
        leaves(edges);
    }

    private static void leaves(Edges edges) {
        edges.on("Names stand in leaves, up to 4 in a leaf")
                .test("four names, one leaf", () -> leavesDue(1, 0, 16, 32, 48))
                .test("five names, two leaves", () -> leavesDue(2, 0, 16, 32, 48, 64))
                .test("six names, two leaves", () -> leavesDue(2, 0, 16, 32, 48, 64, 80))
                .test("seven names of one hash, three leaves", () -> leavesDue(3, 0, 16, 32, 48, 64, 80, 96));
        // 0, 13 stay; 10, 7 go to a leaf with the low hash 2; 1, the fifth, has hash 5, and goes to that.
        edges.on("A name is added to the last leaf whose low hash is at most its hash.")
                .test("hash 2 goes to the leaf with low hash 2", () -> leavesDue(2, 0, 13, 10, 7, 1, 26))
                .test("so that this one is full", () -> leavesDue(3, 0, 13, 10, 7, 1, 26, 4))
                .test("hash 1 goes to the one ahead", () -> leavesDue(2, 0, 13, 10, 7, 1, 29, 4))
                .test("hash 1 twice", () -> leavesDue(2, 0, 13, 10, 7, 1, 29, 45))
                .test("so that that one is full", () -> leavesDue(3, 0, 13, 10, 7, 1, 29, 45, 61))
                .test("hash 0 goes to the first leaf", () -> leavesDue(3, 0, 13, 10, 7, 1, 16, 32, 48))
                .test("hash 15 goes to the last leaf", () -> leavesDue(3, 0, 13, 10, 7, 1, 3, 19));
        edges.on("If that has 4 names, it is split first")
                .test("three names: no split", () -> leavesDue(1, 0, 16, 32))
                .test("another leaf with four names is not split", () -> leavesDue(2, 0, 13, 10, 7, 1, 4, 16, 32))
                .test("four names, after one of them was deleted and one added", Promise02Edges::fullAgain);
        edges.on("of its names, by rising hashes, and with the same hash by rising names, "
                + "the latter two go to a new leaf behind it")
                .test("by hashes, where names would part them otherwise", Promise02Edges::splitByHashes)
                .test("by names with the same hash, added by falling names", Promise02Edges::splitByNames)
                .test("the leaves behind stay behind the new one", Promise02Edges::splitAheadOfAnother);
        edges.on("whose low hash is that of the first one of them")
                .test("its first name has hash 2, so hash 2 goes to it", () -> leavesDue(3, 0, 13, 10, 7, 1, 26, 42))
                .test("and hash 1 does not", () -> leavesDue(2, 0, 13, 10, 7, 29, 26, 42));
        edges.on("it is continued if the latter one of those that stay has the same hash")
                .test("it has: the leaf ahead is looked in first", () -> looksDue(2, 17, 0, 1, 17, 33, 3))
                .test("it has: a name of the leaf ahead is found there", () -> looksDue(1, 1, 0, 1, 17, 33, 3))
                .test("it has not: the leaf ahead is not looked in", () -> looksDue(1, 17, 0, 16, 1, 17, 3))
                .test("all four have the same hash", () -> looksDue(2, 32, 0, 16, 32, 48, 64))
                .test("the latter two have another hash than the former two",
                        () -> looksDue(1, 1, 0, 16, 1, 17, 33));
        edges.on("then the last leaf whose low hash is at most the hash is looked for anew")
                .test("hash 1, below the low hash 2, stays ahead", () -> leavesDue(2, 0, 13, 10, 7, 29, 26, 23))
                .test("hash 2, the low hash, goes to the new leaf", () -> leavesDue(2, 0, 13, 10, 7, 26, 16, 29))
                .test("hash 3 goes to the new leaf", () -> leavesDue(2, 0, 13, 10, 7, 23, 16, 29))
                .test("that of the split leaf's hash itself: the new, continued one",
                        () -> looksDue(2, 64, 0, 16, 32, 48, 64));
        edges.on("A name is a number, 0 to 999; its hash is 5 times the name, modulo 16.")
                .test("the names 0 to 15 have the hashes 0, 5, 10, 15, 4, 9, ..", Promise02Edges::hashes)
                .test("999 has the hash 3, as 7 has", () -> looksDue(2, 999, 7, 23, 39, 55, 999));
    }

    private static void leavesDue(int want, int... names) {
        Due.same("leaves", Volumes.named(names).leaves(), want);
    }

    private static void looksDue(int want, int name, int... names) {
        Buddyfield volume = Volumes.named(names);
        Due.same("leaves", volume.leaves(), 2);
        Due.same("looks " + name, volume.looks(name), want);
        Due.same("it is found", volume.fileOf(name) != Buddyfield.NONE, true);
    }

    private static void newFile() {
        Buddyfield volume = Volumes.named(40, 41);
        Due.same("files", volume.files(), 2);
        Due.same("fileOf", volume.fileOf(41), 1);
        Due.same("opens", volume.opens(1), 0);
        Due.same("listed", volume.listed(), 0);
        Due.same("extents", volume.extents(1), 0);
        for (int place = 0; place < 64; place++) {
            Due.same("place " + place, volume.blockAt(1, place), Buddyfield.NONE);
        }
    }

    private static void lowerVacantNumber() {
        Buddyfield volume = Due.withFiles(8);
        volume.delete(6);
        volume.delete(3);
        Due.same("create", volume.create(100), 3);
        Due.same("create", volume.create(101), 6);
        Due.same("create", volume.create(102), 8);
    }

    private static void firstAndLastNumberAgain() {
        Buddyfield volume = Volumes.full();
        volume.delete(240);
        Due.same("create", volume.create(256), 15);
        volume.delete(0);
        Due.same("create", volume.create(272), 0);
        Due.same("files", volume.files(), 16);
    }

    private static void numberOfDoomedFile() {
        Buddyfield volume = Due.withFiles(2);
        volume.open(0);
        volume.delete(0);
        Due.same("still open", volume.create(50), 2);
        volume.close(0);
        Due.same("closed", volume.create(51), 0);
    }

    private static void nothingIsLeftOver() {
        Buddyfield volume = Due.withFiles(1);
        volume.open(0);
        Due.writeAndFlush(volume, 0, 0, 5);
        volume.write(0, 20, 2);
        volume.delete(0);
        volume.close(0);
        volume.create(7);
        Due.same("opens", volume.opens(0), 0);
        Due.same("places", Due.blocks(volume, 0, 0, 8), "-1 -1 -1 -1 -1 -1 -1 -1");
        Due.same("reserved", volume.blockAt(0, 20), Buddyfield.NONE);
        volume.open(7);
        volume.close(0);
        volume.cut(0, 5);
        Due.same("it is not to be deleted", volume.files(), 1);
        Due.same("nor listed", volume.listed(), 0);
        Due.writeAndFlush(volume, 0, 5, 1);
        Due.same("no block was kept for it", volume.blockAt(0, 5), 0);
    }

    private static Buddyfield fullWithDoomed() {
        Buddyfield volume = Volumes.full();
        volume.open(0);
        volume.delete(0);
        return volume;
    }

    private static void deletedName() {
        Buddyfield volume = Volumes.busy();
        volume.delete(35);
        Due.same("create", volume.create(35), 7);
    }

    private static void nameOfDoomedFile() {
        Buddyfield volume = Volumes.busy();
        Due.same("its file is still there", volume.opens(3), 1);
        Due.same("create", volume.create(48), 8);
        Due.same("fileOf", volume.fileOf(48), 8);
    }

    private static void fullAgain() {
        Buddyfield volume = Volumes.named(0, 16, 32, 48);
        volume.delete(16);
        volume.create(64);
        Due.same("leaves", volume.leaves(), 1);
        volume.create(80);
        Due.same("leaves", volume.leaves(), 2);
        Due.same("0 and 32 stay", volume.looks(32), 1);
        Due.same("48 does not", volume.looks(48), 2);
    }

    /** By names 3 and 13 would stay, and the names of hash 0 would go. */
    private static void splitByHashes() {
        Buddyfield volume = Volumes.named(3, 16, 32, 13, 48);
        for (int name : new int[] {3, 16, 32, 13, 48}) {
            Due.same("looks " + name, volume.looks(name), 1);
            Due.same("it is found", volume.fileOf(name) != Buddyfield.NONE, true);
        }
        volume.create(64);
        Due.same("16, 32, 48, 64 and 13, 3", volume.leaves(), 2);
        volume.create(29);
        volume.create(19);
        Due.same("16, 32, 48, 64 and 13, 29, 3, 19", volume.leaves(), 2);
        volume.create(45);
        Due.same("13, 29 and 3, 19 apart", volume.leaves(), 3);
    }

    private static void splitByNames() {
        Buddyfield volume = Volumes.named(48, 32, 16, 0, 64);
        Due.same("0 stays", volume.looks(0), 1);
        Due.same("16 stays", volume.looks(16), 1);
        Due.same("32 goes", volume.looks(32), 2);
        Due.same("48 goes", volume.looks(48), 2);
        Due.same("64 follows", volume.looks(64), 2);
    }

    /** The first leaf, 0, 1, 16, 32, splits ahead of the continued one with 17, 33, 49. */
    private static void splitAheadOfAnother() {
        Buddyfield volume = Volumes.named(0, 1, 17, 33, 49, 16, 32, 48);
        Due.same("leaves", volume.leaves(), 3);
        Due.same("1 is in the leaf between", volume.looks(1), 1);
        Due.same("49 in the one behind it", volume.looks(49), 2);
        Due.same("fileOf 49", volume.fileOf(49), 4);
        Due.same("0 in the one ahead", volume.looks(0), 1);
        Due.same("32 in that between", volume.looks(32), 2);
    }

    /** With three names of its own hash a name is split into two and two, so it is looked for in two leaves. */
    private static void hashes() {
        int[] due = {0, 5, 10, 15, 4, 9, 14, 3, 8, 13, 2, 7, 12, 1, 6, 11};
        for (int name = 0; name < 16; name++) {
            Buddyfield volume = Volumes.named(name, name + 16, name + 32, name + 48, name + 64);
            for (int other = 0; other < 16; other++) {
                int want = due[other] == due[name] ? 2 : 1;
                Due.same("looks " + (other + 480), volume.looks(other + 480), want);
            }
        }
    }
}
