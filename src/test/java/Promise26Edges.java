/** Promises 26 to 28: the file with a name, how many leaves there are, and in how many one looks. */
final class Promise26Edges {

    private Promise26Edges() {
    }

    static void tests(Edges edges) {
        fileOf(edges);
        leaves(edges);
        looks(edges);
    }

    private static void fileOf(Edges edges) {
        edges.promise(26);
        edges.on("Returns the file with a name.")
                .test("each of 16 names of one hash", Promise26Edges::eachOfOneHash)
                .test("each of 16 names with all hashes", Promise26Edges::eachHash)
                .test("while down", () -> Due.same("fileOf", Volumes.down().fileOf(35), 7));
        edges.on("`name`: 0 to 999")
                .test("0, the smallest", () -> Due.same("fileOf", Volumes.named(999, 0).fileOf(0), 1))
                .test("999, the greatest", () -> Due.same("fileOf", Volumes.named(999, 0).fileOf(999), 0));
        edges.on("Throws `IllegalArgumentException` if name is out of range")
                .nameOutOfRange(Buddyfield::fileOf).nameOutOfRangeWhileDown(Buddyfield::fileOf);
        edges.on("Returns its number; NONE if there is no such name.")
                .test("NONE in a new volume", () -> Due.same("fileOf", new Buddyfield().fileOf(0), -1))
                .test("NONE for a name of a hash that others have", () -> Due.same("fileOf",
                        Volumes.full().fileOf(256), -1))
                .test("NONE for the names beside", Promise26Edges::namesBeside)
                .test("NONE when it is deleted, though its file is open", () -> Due.same("fileOf",
                        Volumes.busy().fileOf(48), -1))
                .test("the new one when it is created anew", Promise26Edges::createdAnew);
    }

    private static void leaves(Edges edges) {
        edges.promise(27);
        edges.on("Returns how many leaves there are.")
                .test("1 at first", () -> Due.same("leaves", new Buddyfield().leaves(), 1))
                .test("1 with four names, 2 with five", Promise26Edges::fourAndFive)
                .test("7 with 16 names of one hash", () -> Due.same("leaves", Volumes.full().leaves(), 7))
                .test("none less when all names are deleted", Promise26Edges::noneLess)
                .test("as many behind a crash and a start", Promise26Edges::behindAStart)
                .test("30 with 62 names of one hash, five of them at a time", Promise26Edges::thirty)
                .test("more than 100 within 512 calls", Promise26Edges::moreThanAHundred);
    }

    private static void looks(Edges edges) {
        edges.promise(28);
        edges.on("Returns in how many leaves one looks for a name.")
                .test("1 in a new volume", () -> Due.same("looks", new Buddyfield().looks(0), 1))
                .test("while down", () -> Due.same("looks", Volumes.down().looks(16), 1));
        edges.on("`name`: 0 to 999")
                .test("0, the smallest", () -> Due.same("looks", Volumes.full().looks(0), 1))
                .test("999, the greatest", () -> Due.same("looks", Volumes.named(7, 23, 39, 55, 71).looks(999), 2));
        edges.on("Throws `IllegalArgumentException` if name is out of range")
                .nameOutOfRange(Buddyfield::looks).nameOutOfRangeWhileDown(Buddyfield::looks);
        edges.on("Returns how many leaves, that in which it is found included, those over which one goes back "
                + "first not.")
                .test("found in the first of seven", () -> Due.same("looks", Volumes.full().looks(16), 1))
                .test("found in the second of seven", () -> Due.same("looks", Volumes.full().looks(32), 2))
                .test("found in the last of seven", () -> Due.same("looks", Volumes.full().looks(240), 7))
                .test("not found: all seven", () -> Due.same("looks", Volumes.full().looks(256), 7))
                .test("a hash above them: the last leaf alone", () -> Due.same("looks", Volumes.full().looks(1), 1));
        edges.on("from the last leaf whose low hash is at most its hash, as long as that is continued and "
                + "its low hash is the hash, one goes back by a leaf; there one begins")
                .test("back over none: not continued", () -> looksDue(1, 1, 0, 16, 1, 17, 33))
                .test("back over none: continued, but with another low hash", Promise26Edges::anotherLowHash)
                .test("back over one, to a leaf with a lower low hash", () -> looksDue(1, 1, 0, 1, 17, 33, 49))
                .test("back over six, to the first leaf", () -> Due.same("looks", Volumes.full().looks(0), 1))
                .test("back to a leaf that is not continued, with the hash as low hash",
                        Promise26Edges::backToNotContinued);
        edges.on("as long as the name is not in a leaf, and the next leaf is continued and has the hash "
                + "as low hash, one goes on to that")
                .test("not on to one that is not continued", () -> looksDue(1, 48, 0, 16, 1, 17, 33))
                .test("not on to one that is continued with another low hash", () -> looksDue(1, 16, 0, 1, 17, 33, 49))
                .test("on to one that is", () -> looksDue(2, 65, 0, 1, 17, 33, 49))
                .test("not behind the last leaf", () -> looksDue(2, 80, 0, 16, 32, 48, 64))
                .test("over an emptied leaf", Promise26Edges::overAnEmptiedLeaf);
    }

    private static void looksDue(int want, int name, int... names) {
        Buddyfield volume = Volumes.named(names);
        Due.same("leaves", volume.leaves(), 2);
        Due.same("looks " + name, volume.looks(name), want);
    }

    private static void eachOfOneHash() {
        Buddyfield volume = Volumes.full();
        for (int file = 0; file < 16; file++) {
            Due.same("fileOf", volume.fileOf(16 * file), file);
        }
    }

    private static void eachHash() {
        Buddyfield volume = Due.withFiles(16);
        for (int name = 0; name < 16; name++) {
            Due.same("fileOf", volume.fileOf(name), name);
            Due.same("looks", volume.looks(name), 1);
        }
    }

    private static void namesBeside() {
        Buddyfield volume = Volumes.named(500);
        Due.same("499", volume.fileOf(499), Buddyfield.NONE);
        Due.same("500", volume.fileOf(500), 0);
        Due.same("501", volume.fileOf(501), Buddyfield.NONE);
        Due.same("516, of the same hash", volume.fileOf(516), Buddyfield.NONE);
    }

    private static void createdAnew() {
        Buddyfield volume = Volumes.busy();
        volume.create(48);
        Due.same("fileOf", volume.fileOf(48), 8);
    }

    private static void fourAndFive() {
        Buddyfield volume = Volumes.named(0, 1, 2, 3);
        Due.same("four", volume.leaves(), 1);
        volume.create(4);
        Due.same("five", volume.leaves(), 2);
    }

    private static void noneLess() {
        Buddyfield volume = Volumes.full();
        for (int file = 0; file < 16; file++) {
            volume.delete(16 * file);
        }
        Due.same("files", volume.files(), 0);
        Due.same("leaves", volume.leaves(), 7);
        Due.same("all seven are looked in", volume.looks(0), 7);
    }

    private static void behindAStart() {
        Buddyfield volume = Volumes.down();
        Due.same("down", volume.leaves(), 3);
        volume.start();
        Due.same("started", volume.leaves(), 3);
    }

    /** The fifth create splits the last leaf, and then every other one, for the two latter names go on. */
    private static void thirty() {
        Buddyfield volume = fiveAtATime(62);
        Due.same("leaves", volume.leaves(), 30);
        Due.same("looks for the last one", volume.looks(61 * 16), 30);
        Due.same("fileOf the last one", volume.fileOf(61 * 16) != Buddyfield.NONE, true);
    }

    private static void moreThanAHundred() {
        Due.same("leaves", fiveAtATime(256).leaves() > 100, true);
    }

    private static Buddyfield fiveAtATime(int creates) {
        Buddyfield volume = new Buddyfield();
        for (int turn = 0; turn < creates; turn++) {
            volume.create(turn % 62 * 16);
            if (turn >= 5) {
                volume.delete((turn - 5) % 62 * 16);
            }
        }
        return volume;
    }

    /** 0, 1 and, continued with low hash 5, 17, 33, 2; for 2 with hash 10 one goes back over none. */
    private static void anotherLowHash() {
        Buddyfield volume = Volumes.named(0, 1, 17, 33, 2);
        Due.same("leaves", volume.leaves(), 2);
        Due.same("looks", volume.looks(2), 1);
        Due.same("looks for a name that is not there", volume.looks(18), 1);
    }

    /** 0, 16 and, not continued, 1, 17, and then, continued, 33, 49, 65: all of the latter have hash 5. */
    private static void backToNotContinued() {
        Buddyfield volume = Volumes.named(0, 16, 1, 17, 33, 49, 65);
        Due.same("leaves", volume.leaves(), 3);
        Due.same("looks 1", volume.looks(1), 1);
        Due.same("looks 65", volume.looks(65), 2);
        Due.same("looks 81", volume.looks(81), 2);
        Due.same("looks 32", volume.looks(32), 1);
    }

    private static void overAnEmptiedLeaf() {
        Buddyfield volume = Volumes.named(0, 16, 32, 48, 64, 80, 96);
        Due.same("leaves", volume.leaves(), 3);
        volume.delete(32);
        volume.delete(48);
        Due.same("looks 64", volume.looks(64), 3);
        Due.same("fileOf 64", volume.fileOf(64), 4);
    }
}
