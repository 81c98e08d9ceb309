/** Promise 1, the constants, and what is there from the first. */
final class Promise01Edges {

    private Promise01Edges() {
    }

    static void tests(Edges edges) {
        edges.promise(1);
        edges.on("A volume without files, all of whose blocks are free.")
                .test("no files", () -> Due.same("files", new Buddyfield().files(), 0))
                .test("no number from 0 to 15 is a file's", Promise01Edges::noNumberIsAFile)
                .test("no name from 0 to 999 is there", Promise01Edges::noNameIsThere)
                .test("each block is free", Promise01Edges::eachBlockIsFree)
                .test("nothing is reserved, kept or listed", Promise01Edges::nothingIsBegun)
                .test("another object is not changed by this one's calls", Promise01Edges::objectsAreApart);
        edges.on("There are the blocks 0 to 127, in the groups 0 to 3 of 32 blocks each.")
                .test("block 0 is there", () -> Due.same("isFree", new Buddyfield().isFree(0), true))
                .test("block 127 is there", () -> Due.same("isFree", new Buddyfield().isFree(127), true))
                .test("each group has 32 blocks, and one piece of 32", Promise01Edges::groupsAreWhole)
                .test("files of group 0 to 3 get blocks 0, 32, 64, 96 first", Promise01Edges::firstBlocks);
        edges.on("at first there is one leaf with the low hash 0, not continued")
                .test("one leaf", () -> Due.same("leaves", new Buddyfield().leaves(), 1))
                .test("it is looked in for each hash", Promise01Edges::oneLook);
        edges.on("`NONE = -1`: There is none.")
                .test("NONE", () -> Due.same("NONE", Buddyfield.NONE, -1));
        edges.on("`RESERVED = -2`: A place with a reserved block.")
                .test("RESERVED", () -> Due.same("RESERVED", Buddyfield.RESERVED, -2));
    }

    private static void noNumberIsAFile() {
        for (int file = 0; file < 16; file++) {
            int number = file;
            Buddyfield volume = new Buddyfield();
            Due.outOfBounds(volume, "opens " + file, () -> volume.opens(number));
        }
    }

    private static void noNameIsThere() {
        Buddyfield volume = new Buddyfield();
        for (int name = 0; name < 1000; name++) {
            Due.same("fileOf " + name, volume.fileOf(name), Buddyfield.NONE);
        }
    }

    private static void eachBlockIsFree() {
        Buddyfield volume = new Buddyfield();
        for (int block = 0; block < 128; block++) {
            Due.same("isFree " + block, volume.isFree(block), true);
        }
        Due.same("free", volume.free(), 128);
        Due.same("freeByFiles", volume.freeByFiles(), 128);
    }

    private static void nothingIsBegun() {
        Buddyfield volume = new Buddyfield();
        Due.same("reserved", volume.reserved(), 0);
        Due.same("kept", volume.kept(), 0);
        Due.same("listed", volume.listed(), 0);
        Due.same("isDown", volume.isDown(), false);
    }

    private static void objectsAreApart() {
        Buddyfield other = new Buddyfield();
        Volumes.down();
        Due.same("state", Due.stateOf(other), Due.stateOf(new Buddyfield()));
    }

    private static void groupsAreWhole() {
        Buddyfield volume = new Buddyfield();
        for (int group = 0; group < 4; group++) {
            Due.same("blocks of group " + group, volume.pieces(group, 0), 32);
            Due.same("the whole group " + group, volume.pieces(group, 5), 1);
        }
    }

    private static void firstBlocks() {
        Buddyfield volume = Due.withFiles(4);
        for (int file = 0; file < 4; file++) {
            Due.writeAndFlush(volume, file, 0, 32);
            Due.same("first block", volume.blockAt(file, 0), 32 * file);
            Due.same("last block", volume.blockAt(file, 31), 32 * file + 31);
        }
    }

    private static void oneLook() {
        Buddyfield volume = new Buddyfield();
        for (int name = 0; name < 16; name++) {
            Due.same("looks " + name, volume.looks(name), 1);
        }
    }
}
