/** Volumes in the states with which tests begin. */
final class Volumes {

    private Volumes() {
    }

    static Buddyfield named(int... names) {
        Buddyfield volume = new Buddyfield();
        for (int name : names) {
            volume.create(name);
        }
        return volume;
    }

    /**
     * The files 0 to 7 with the names 0, 16, 32, 48, 64 (hash 0) and 3, 19, 35 (hash 15) in three
     * leaves, with all at once: places mapped and reserved, blocks kept, files open, one of them to be
     * deleted (file 3), and a crash told.
     */
    static Buddyfield busy() {
        Buddyfield volume = named(0, 16, 32, 48, 64, 3, 19, 35);
        volume.open(16);
        volume.open(16);
        volume.open(48);
        Due.writeAndFlush(volume, 0, 0, 5);
        Due.writeAndFlush(volume, 1, 10, 9);
        Due.writeAndFlush(volume, 3, 0, 20);
        volume.write(2, 0, 6);
        volume.write(0, 30, 2);
        volume.delete(48);
        volume.crashBehind(6);
        return volume;
    }

    /** The busy one behind a crash in the midst of a cut of file 1 to 1. */
    static Buddyfield down() {
        Buddyfield volume = busy();
        volume.crashBehind(2);
        volume.cut(1, 1);
        return volume;
    }

    /** All 16 files, with the names 0, 16, .. 240, so that the last leaf has four names; one block each. */
    static Buddyfield full() {
        Buddyfield volume = new Buddyfield();
        for (int file = 0; file < 16; file++) {
            volume.create(16 * file);
            Due.writeAndFlush(volume, file, file, 1);
        }
        return volume;
    }

    static Buddyfield withoutFile2() {
        Buddyfield volume = busy();
        volume.delete(32);
        return volume;
    }

    /** Three files, of which 1 and 2 have reserved all blocks but some; at most 64 of those. */
    static Buddyfield leaving(int left) {
        Buddyfield volume = Due.withFiles(3);
        volume.write(1, 0, 64);
        if (left < 64) {
            volume.write(2, 0, 64 - left);
        }
        return volume;
    }

    /** All blocks are of two files with 64 places each. */
    static Buddyfield allMapped() {
        Buddyfield volume = Due.withFiles(3);
        Due.writeAndFlush(volume, 0, 0, 64);
        Due.writeAndFlush(volume, 1, 0, 64);
        return volume;
    }

    /** Files 0 and 4 have every other block each, from place 0 on: file 0 the even ones, file 4 the odd ones. */
    static Buddyfield everyOtherBlock() {
        Buddyfield volume = Due.withFiles(6);
        for (int place = 0; place < 64; place++) {
            Due.writeAndFlush(volume, 0, place, 1);
            Due.writeAndFlush(volume, 4, place, 1);
        }
        return volume;
    }

    /** Five files, of which file 0 has the blocks 0 to 4 at its first places, and 5 to 7 are kept for it. */
    static Buddyfield fiveOfEight() {
        Buddyfield volume = Due.withFiles(5);
        Due.writeAndFlush(volume, 0, 0, 5);
        return volume;
    }
}
