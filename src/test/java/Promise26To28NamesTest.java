/** Promises 26 to 28: fileOf, leaves and looks, with the leaves behind them. */
public final class Promise26To28NamesTest {

    public static void main(String[] args) {
        aSplitWithinOneHash();
        aSplitBetweenHashes();
        namesTakenOutAreMissing();
        theHashIsFoundBehindOthers();
        aNewLeafAheadOfAContinuedOne();
        splitsGoByHashThenName();
        wrongInputs();
        Due.end("promises 26 to 28");
    }

    private static Buddyfield named(int... names) {
        Buddyfield volume = new Buddyfield();
        for (int name : names) {
            volume.create(name);
        }
        return volume;
    }

    private static void looks(Buddyfield volume, int name, int want) {
        Due.same("looks " + name, volume.looks(name), want);
    }

    /** Names 0, 16, 32 .. have hash 0. */
    private static void aSplitWithinOneHash() {
        Buddyfield volume = named(0, 16, 32, 48);
        Due.same("four in one leaf", volume.leaves(), 1);
        looks(volume, 48, 1);
        looks(volume, 64, 1);
        volume.create(64);
        Due.same("leaves", volume.leaves(), 2);
        looks(volume, 16, 1);
        looks(volume, 32, 2);
        looks(volume, 64, 2);
        looks(volume, 80, 2);
        looks(volume, 1, 1);
        Due.same("fileOf 64", volume.fileOf(64), 4);
        Due.same("fileOf 32", volume.fileOf(32), 2);
        Due.same("fileOf 80", volume.fileOf(80), Buddyfield.NONE);
        volume.create(80);
        volume.create(96);
        Due.same("leaves", volume.leaves(), 3);
        looks(volume, 48, 2);
        looks(volume, 64, 3);
        looks(volume, 96, 3);
        looks(volume, 112, 3);
    }

    /** Names 0 to 3 have the hashes 0, 5, 10 and 15; name 13 has hash 1. */
    private static void aSplitBetweenHashes() {
        Buddyfield volume = named(3, 2, 1, 0, 13);
        Due.same("leaves", volume.leaves(), 2);
        for (int name : new int[] {0, 1, 2, 3, 13}) {
            looks(volume, name, 1);
        }
        volume.create(16);
        volume.create(32);
        Due.same("leaves", volume.leaves(), 3);
        // The first leaf split into the names 0, 16 and 13, 1, so hash 0 has still one leaf.
        looks(volume, 0, 1);
        looks(volume, 32, 1);
        looks(volume, 48, 1);
        looks(volume, 13, 1);
        Due.same("fileOf 13", volume.fileOf(13), 4);
        Due.same("fileOf 32", volume.fileOf(32), 6);
    }

    private static void namesTakenOutAreMissing() {
        Buddyfield volume = named(0, 16, 32, 48, 64);
        volume.delete(0);
        volume.delete(16);
        Due.same("leaves stay", volume.leaves(), 2);
        Due.same("fileOf 0", volume.fileOf(0), Buddyfield.NONE);
        looks(volume, 0, 2);
        looks(volume, 32, 2);
        volume.delete(32);
        volume.delete(48);
        volume.delete(64);
        Due.same("leaves stay", volume.leaves(), 2);
        Due.same("create 0", volume.create(0), 0);
        looks(volume, 0, 2);
        volume.create(16);
        volume.create(32);
        volume.create(48);
        Due.same("a leaf has room for four", volume.leaves(), 2);
        volume.create(64);
        Due.same("and not for five", volume.leaves(), 3);
        looks(volume, 16, 2);
        looks(volume, 32, 3);
        looks(volume, 64, 3);
    }

    /** Hash 0: 0, 16, 32; hash 5: 1, 17, 33; the second leaf begins with hash 5, not continued. */
    private static void theHashIsFoundBehindOthers() {
        Buddyfield volume = named(0, 16, 1, 17, 33);
        Due.same("leaves", volume.leaves(), 2);
        looks(volume, 1, 1);
        looks(volume, 33, 1);
        Buddyfield other = named(0, 1, 17, 33, 49);
        Due.same("leaves", other.leaves(), 2);
        looks(other, 1, 1);
        looks(other, 17, 2);
        looks(other, 49, 2);
        looks(other, 65, 2);
        looks(other, 0, 1);
        looks(other, 2, 1);
        Due.same("fileOf 1", other.fileOf(1), 1);
        Due.same("fileOf 49", other.fileOf(49), 4);
    }

    /** The name 1 with hash 5 is taken on by a new leaf between the first one and a continued one. */
    private static void aNewLeafAheadOfAContinuedOne() {
        Buddyfield volume = named(0, 1, 17, 33, 49);
        Due.same("0, 1 and, continued, 17, 33, 49", volume.leaves(), 2);
        volume.create(16);
        volume.create(32);
        volume.create(48);
        Due.same("0, 16 and 32, 48, 1 and 17, 33, 49", volume.leaves(), 3);
        looks(volume, 1, 1);
        looks(volume, 49, 2);
        looks(volume, 65, 2);
        looks(volume, 16, 1);
        looks(volume, 48, 2);
        Due.same("fileOf 1", volume.fileOf(1), 1);
        Due.same("fileOf 33", volume.fileOf(33), 3);
        Due.same("delete 1", volume.delete(1), 1);
        Due.same("fileOf 1", volume.fileOf(1), Buddyfield.NONE);
        looks(volume, 17, 2);
    }

    private static void splitsGoByHashThenName() {
        Buddyfield volume = named(999, 48, 3, 0, 16);
        // Hash 0: 0, 16, 48; hash 3: 999; hash 15: 3.
        Due.same("leaves", volume.leaves(), 2);
        looks(volume, 0, 1);
        looks(volume, 48, 1);
        looks(volume, 999, 1);
        volume.create(32);
        volume.create(64);
        // The first leaf had 0, 16, 32, 48; it split into 0, 16 and 32, 48, 64.
        Due.same("leaves", volume.leaves(), 3);
        looks(volume, 16, 1);
        looks(volume, 32, 2);
        looks(volume, 999, 1);
        Due.same("fileOf 999", volume.fileOf(999), 0);
    }

    private static void wrongInputs() {
        Buddyfield volume = named(5);
        for (int name : new int[] {-1, 1000, Integer.MIN_VALUE, Integer.MAX_VALUE}) {
            Due.badArgument(volume, "fileOf " + name, () -> volume.fileOf(name));
            Due.badArgument(volume, "looks " + name, () -> volume.looks(name));
        }
        volume.crash();
        Due.same("while down", volume.fileOf(5), 0);
        Due.same("while down", volume.leaves(), 1);
    }
}
