/**
 * Leaves that split, and names with one hash, over creating, deleting, crashing and starting. The names 0, 16,
 * 32 .. have the hash 0; 4, 20 .. have 4; 1, 17, 33 .. have 5; 3, 19, 35 .. have 15.
 */
final class PromisesMeetNamesEdges {

    private static final String SPLIT = "If that has 4 names, it is split first: of its names, by rising hashes, "
            + "and with the same hash by rising names, the latter two go to a new leaf behind it, "
            + "whose low hash is that of the first one of them; it is continued if the latter one of those that stay "
            + "has the same hash; then the last leaf whose low hash is at most the hash is looked for anew.";
    private static final String LOOKED_FOR = "as long as the name is not in a leaf, and the next leaf is continued "
            + "and has the hash as low hash, one goes on to that";
    private static final String TAKEN_OUT = "A name that is taken out is only missing in its leaf.";

    private PromisesMeetNamesEdges() {
    }

    static void tests(Edges edges) {
        edges.promise(Document.TERMS);
        edges.on(SPLIT)
                .test("leaves of one hash, split by a lower one ahead of them", PromisesMeetNamesEdges::splitByLower)
                .test("names of one hash, added by falling names", PromisesMeetNamesEdges::fallingNames)
                .test("a leaf is split once for each name, for two are behind it then",
                        PromisesMeetNamesEdges::onceForEachName)
                .test("a leaf that is refilled is split anew", PromisesMeetNamesEdges::refilledLeaf)
                .test("a low hash of 15", PromisesMeetNamesEdges::greatestHash);
        edges.on(LOOKED_FOR)
                .test("16 names of one hash: each by its leaf", PromisesMeetNamesEdges::sixteenOfOneHash)
                .test("a name in the midst, deleted and created again, is in the last leaf",
                        PromisesMeetNamesEdges::againInTheLastLeaf)
                .test("two hashes in one leaf: each is looked for in its own leaves", PromisesMeetNamesEdges::twoHashes)
                .test("opening and deleting find it in each of three leaves", PromisesMeetNamesEdges::openAndDelete);
        edges.on(TAKEN_OUT)
                .test("all of one hash, and leaves stay", PromisesMeetNamesEdges::allTakenOut)
                .test("from a full leaf: the next name is added without a split", PromisesMeetNamesEdges::fullNoMore)
                .test("by a deletion that a crash ends: it is out behind the crash, and behind the start",
                        PromisesMeetNamesEdges::outByAnEndedDeletion)
                .test("while its file is open: the name can be another file's", PromisesMeetNamesEdges::ofAnotherFile)
                .test("a refused create splits no full leaf", PromisesMeetNamesEdges::refusedCreate);
        edges.on("Names stand in leaves, up to 4 in a leaf; a leaf has a low hash, and is perhaps a continued one")
                .test("a crash and a start leave names and leaves as they were", PromisesMeetNamesEdges::leftByACrash)
                .test("behind the start a full leaf is split as ahead of it", PromisesMeetNamesEdges::splitBehindAStart);
    }

    /** What looks answers for each of some names, as one text. */
    private static void looks(Buddyfield volume, String want, int... names) {
        StringBuilder text = new StringBuilder();
        for (int name : names) {
            text.append(text.length() == 0 ? "" : " ").append(volume.looks(name));
        }
        Due.same("looks of names from " + names[0] + " on", text.toString(), want);
    }

    private static void filesOf(Buddyfield volume, String want, int... names) {
        StringBuilder text = new StringBuilder();
        for (int name : names) {
            text.append(text.length() == 0 ? "" : " ").append(volume.fileOf(name));
        }
        Due.same("files of names from " + names[0] + " on", text.toString(), want);
    }

    private static void create(Buddyfield volume, int... names) {
        for (int name : names) {
            volume.create(name);
        }
    }

    // ---- splitting

    /**
     * 1, 17 and 33, 49, 65; then 0, 16, 1, 17 split into 0, 16, 32 and 1, 17, not continued; then 33, 49 and
     * 65, 81, 97, continued; then 0, 16 and 32, 48, 4, continued with the low hash 0.
     */
    private static void splitByLower() {
        Buddyfield volume = Volumes.named(1, 17, 33, 49, 65);
        Due.same("leaves", volume.leaves(), 2);
        looks(volume, "1 1 2 2 2", 1, 17, 33, 49, 65);
        create(volume, 0, 16, 32);
        Due.same("leaves", volume.leaves(), 3);
        looks(volume, "1 1 1 1 1 2 2 2", 0, 16, 32, 1, 17, 33, 49, 65);
        create(volume, 81, 97);
        Due.same("leaves", volume.leaves(), 4);
        looks(volume, "1 1 2 2 3 3 3", 1, 17, 33, 49, 65, 81, 97);
        Due.same("no such name of that hash", volume.looks(113), 3);
        create(volume, 4, 48);
        Due.same("leaves", volume.leaves(), 5);
        looks(volume, "1 1 2 2 1 1 2 3", 0, 16, 32, 48, 4, 1, 33, 97);
        Due.same("no such name of hash 4, in the leaf with 4 alone", volume.looks(20), 1);
        Due.same("no such name of hash 0, in the two leaves of it", volume.looks(64), 2);
        filesOf(volume, "0 1 2 3 4 5 6 7 8 9 10 11", 1, 17, 33, 49, 65, 0, 16, 32, 81, 97, 4, 48);
    }

    /** 96, 80, 64, 48 give 48, 64 and 80, 96 with 32; then 32, 80 and 96 stay three, and 16 makes four. */
    private static void fallingNames() {
        Buddyfield volume = Volumes.named(96, 80, 64, 48, 32);
        looks(volume, "1 1 2 2 2", 48, 64, 32, 80, 96);
        create(volume, 16);
        Due.same("leaves", volume.leaves(), 2);
        create(volume, 0);
        Due.same("16, 32 stay, 80, 96 and 0 are behind", volume.leaves(), 3);
        looks(volume, "1 1 2 2 3 3 3", 48, 64, 16, 32, 0, 80, 96);
        filesOf(volume, "6 5 4 3 2 1 0", 0, 16, 32, 48, 64, 80, 96);
    }

    private static void onceForEachName() {
        Buddyfield volume = new Buddyfield();
        int[] due = {1, 1, 1, 1, 2, 2, 3, 3, 4, 4, 5, 5, 6, 6, 7, 7};
        for (int i = 0; i < due.length; i++) {
            volume.create(16 * i);
            Due.same("leaves with " + (i + 1) + " names", volume.leaves(), due[i]);
        }
    }

    /** 0, 1 and 17, 33, 49; with 16 and 32 ahead 0, 16, 32, 1 are four; 48 splits them into 0, 16 and 32, 1. */
    private static void refilledLeaf() {
        Buddyfield volume = Volumes.named(0, 1, 17, 33, 49);
        looks(volume, "1 1 2 2 2", 0, 1, 17, 33, 49);
        create(volume, 16, 32);
        Due.same("leaves", volume.leaves(), 2);
        create(volume, 48);
        Due.same("leaves", volume.leaves(), 3);
        looks(volume, "1 1 2 2", 0, 16, 32, 48);
        Due.same("1 is in the leaf with the low hash 0, ahead of the one with 5", volume.looks(1), 1);
        looks(volume, "2 2 2", 17, 33, 49);
        filesOf(volume, "0 1 2 3 4 5 6 7", 0, 1, 17, 33, 49, 16, 32, 48);
    }

    private static void greatestHash() {
        Buddyfield volume = Volumes.named(3, 19, 35, 51, 67, 83, 99);
        Due.same("leaves", volume.leaves(), 3);
        looks(volume, "1 1 2 2 3 3 3", 3, 19, 35, 51, 67, 83, 99);
        Due.same("of hash 14", volume.looks(6), 1);
        create(volume, 6);
        looks(volume, "1 1 3", 6, 3, 99);
    }

    // ---- looking for names

    private static Buddyfield sixteen() {
        Buddyfield volume = new Buddyfield();
        for (int file = 0; file < 16; file++) {
            volume.create(16 * file);
        }
        return volume;
    }

    private static void sixteenOfOneHash() {
        Buddyfield volume = sixteen();
        for (int file = 0; file < 16; file++) {
            int want = file >= 12 ? 7 : file / 2 + 1;
            Due.same("looks " + 16 * file, volume.looks(16 * file), want);
            Due.same("fileOf " + 16 * file, volume.fileOf(16 * file), file);
            Due.same("open " + 16 * file, volume.open(16 * file), file);
        }
        Due.same("no such name", volume.looks(256), 7);
    }

    /** The seventh leaf has 192, 208, 224, 240, so 64 splits it, and is with 224 and 240 in the eighth. */
    private static void againInTheLastLeaf() {
        Buddyfield volume = sixteen();
        Due.same("delete", volume.delete(64), 4);
        Due.same("delete", volume.delete(80), 5);
        Due.same("looks", volume.looks(64), 7);
        Due.same("over the emptied leaf", volume.looks(96), 4);
        Due.same("create", volume.create(64), 4);
        Due.same("leaves", volume.leaves(), 8);
        looks(volume, "7 7 8 8 8", 192, 208, 64, 224, 240);
        Due.same("create", volume.create(80), 5);
        Due.same("leaves", volume.leaves(), 8);
        filesOf(volume, "3 4 5 6 15", 48, 64, 80, 96, 240);
    }

    /** 0, 16 and 32, 1, 17 (low hash 0); then 33 makes four, and 49 splits into 32, 1 and 17, 33, 49. */
    private static void twoHashes() {
        Buddyfield volume = Volumes.named(0, 16, 32, 1, 17);
        Due.same("leaves", volume.leaves(), 2);
        looks(volume, "1 1 2 1 1", 0, 16, 32, 1, 17);
        create(volume, 33, 49);
        Due.same("leaves", volume.leaves(), 3);
        looks(volume, "1 1 2 1 2 2 2", 0, 16, 32, 1, 17, 33, 49);
        Due.same("of hash 0, no such name", volume.looks(48), 2);
        Due.same("of hash 5, no such name", volume.looks(65), 2);
        Due.same("of hash 4, in the leaf between alone", volume.looks(4), 1);
        Due.same("of hash 15, in the last leaf alone", volume.looks(3), 1);
    }

    private static void openAndDelete() {
        Buddyfield volume = Volumes.named(0, 16, 32, 48, 64, 80, 96);
        looks(volume, "1 2 3", 16, 32, 96);
        Due.same("open", volume.open(16), 1);
        Due.same("open", volume.open(32), 2);
        Due.same("open", volume.open(96), 6);
        Due.same("delete", volume.delete(96), 6);
        Due.same("delete", volume.delete(48), 3);
        Due.same("delete", volume.delete(0), 0);
        filesOf(volume, "-1 1 2 -1 4 5 -1", 0, 16, 32, 48, 64, 80, 96);
        looks(volume, "3 1 2 3 3 3 3", 0, 16, 32, 48, 64, 80, 96);
        Due.badState(volume, "open 48", () -> volume.open(48));
        Due.badState(volume, "delete 96", () -> volume.delete(96));
    }

    // ---- names that are taken out

    private static void allTakenOut() {
        Buddyfield volume = sixteen();
        for (int file = 0; file < 16; file++) {
            Due.same("delete", volume.delete(16 * file), file);
        }
        Due.same("files", volume.files(), 0);
        Due.same("leaves", volume.leaves(), 7);
        Due.same("looks", volume.looks(0), 7);
        for (int i = 0; i < 4; i++) {
            Due.same("create", volume.create(16 * i), i);
        }
        Due.same("the last leaf has room for four", volume.leaves(), 7);
        looks(volume, "7 7 7 7", 0, 16, 32, 48);
        volume.create(64);
        Due.same("and not for five", volume.leaves(), 8);
        looks(volume, "7 7 8 8 8", 0, 16, 32, 48, 64);
    }

    private static void fullNoMore() {
        Buddyfield volume = Volumes.named(0, 16, 32, 48, 64, 80);
        volume.delete(48);
        volume.create(96);
        Due.same("32, 64, 80, 96", volume.leaves(), 2);
        volume.create(112);
        Due.same("32, 64 and 80, 96, 112", volume.leaves(), 3);
        looks(volume, "1 1 2 2 3 3 3 3", 0, 16, 32, 64, 80, 96, 112, 48);
    }

    /** 16 is out of the first leaf, and comes again to the second one; 80 splits that into 16, 32 and 48, 64, 80. */
    private static void outByAnEndedDeletion() {
        Buddyfield volume = Volumes.named(0, 16, 32, 48, 64);
        Due.writeAndFlush(volume, 1, 0, 8);
        volume.crashBehind(1);
        Due.same("delete", volume.delete(16), Buddyfield.NONE);
        filesOf(volume, "0 -1 2 3 4", 0, 16, 32, 48, 64);
        looks(volume, "1 2 2 2 2", 0, 16, 32, 48, 64);
        Due.same("start", volume.start(), 1);
        filesOf(volume, "0 -1 2 3 4", 0, 16, 32, 48, 64);
        Due.same("leaves", volume.leaves(), 2);
        Due.same("create", volume.create(16), 1);
        looks(volume, "1 2 2 2 2", 0, 16, 32, 48, 64);
        Due.same("create", volume.create(80), 5);
        Due.same("leaves", volume.leaves(), 3);
        looks(volume, "1 2 2 3 3 3", 0, 16, 32, 48, 64, 80);
    }

    private static void ofAnotherFile() {
        Buddyfield volume = Volumes.named(0, 16, 32, 48, 64);
        volume.open(16);
        Due.same("delete", volume.delete(16), 1);
        Due.same("create", volume.create(16), 5);
        Due.same("in the second leaf", volume.looks(16), 2);
        Due.same("open", volume.open(16), 5);
        Due.same("delete", volume.delete(16), 5);
        Due.same("both are to be deleted", volume.listed(), 2);
        Due.same("create", volume.create(16), 6);
        Due.same("close", volume.close(1), 0);
        Due.same("close", volume.close(5), 0);
        Due.same("fileOf", volume.fileOf(16), 6);
        Due.same("files", volume.files(), 5);
        Due.same("leaves", volume.leaves(), 2);
    }

    private static void refusedCreate() {
        Buddyfield volume = sixteen();
        Due.badState(volume, "a 17th file", () -> volume.create(256));
        Due.badState(volume, "such a name", () -> volume.create(240));
        Due.same("leaves", volume.leaves(), 7);
        volume.delete(0);
        volume.create(256);
        Due.same("leaves", volume.leaves(), 8);
    }

    // ---- crashes

    private static void leftByACrash() {
        Buddyfield volume = sixteen();
        volume.delete(80);
        volume.crash();
        looks(volume, "1 3 7 4", 0, 64, 80, 96);
        filesOf(volume, "0 4 -1 6", 0, 64, 80, 96);
        volume.start();
        looks(volume, "1 3 7 4", 0, 64, 80, 96);
        filesOf(volume, "0 4 -1 6", 0, 64, 80, 96);
        Due.same("leaves", volume.leaves(), 7);
    }

    private static void splitBehindAStart() {
        Buddyfield volume = Volumes.named(0, 16, 1, 17);
        volume.crash();
        Due.badState(volume, "while down", () -> volume.create(33));
        Due.same("leaves", volume.leaves(), 1);
        volume.start();
        Due.same("create", volume.create(33), 4);
        Due.same("leaves", volume.leaves(), 2);
        looks(volume, "1 1 1 1 1", 0, 16, 1, 17, 33);
    }
}
