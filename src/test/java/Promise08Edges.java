/** Promise 8: what a cut leaves, and its steps. */
final class Promise08Edges {

    private Promise08Edges() {
    }

    static void tests(Edges edges) {
        edges.promise(8);
        edges.on("Cuts a file.").test("that one alone", Promise08Edges::thatOneAlone);
        edges.on("`file`: a file")
                .test("file 0 is taken", () -> Due.same("cut", Volumes.full().cut(0, 0), 1))
                .test("file 15 is taken", () -> Due.same("cut", Volumes.full().cut(15, 0), 1));
        edges.on("Throws `IndexOutOfBoundsException` if there is no such file")
                .noSuchFile((volume, file) -> volume.cut(file, 0));
        edges.on("`size`: 0 to 64")
                .test("0, the smallest, leaves nothing", () -> cutOf64(0, 16))
                .test("64, the greatest, leaves all", () -> cutOf64(64, 0))
                .test("63 takes one place", () -> cutOf64(63, 1))
                .test("1 leaves one place", () -> cutOf64(1, 16));
        edges.on("Throws `IllegalArgumentException` if size is out of range");
        for (int size : new int[] {-1, 65, Integer.MIN_VALUE, Integer.MAX_VALUE}) {
            edges.badArgument("size " + size, Volumes::busy, volume -> volume.cut(1, size));
        }
        edges.on("Throws `IllegalStateException` if the volume is down")
                .badState("down", Volumes::down, volume -> volume.cut(0, 0))
                .badState("down, the file that was being cut", Volumes::down, volume -> volume.cut(1, 1));
        edges.on("If several apply, the one that is named first in the throws clause is thrown.")
                .noSuchFileWhileDown((volume, file) -> volume.cut(file, 0))
                .outOfBounds("no such file, and size 65", Volumes::busy, volume -> volume.cut(8, 65))
                .outOfBounds("no such file, size -1, and down", Volumes::down, volume -> volume.cut(16, -1))
                .badArgument("size 65, and down", Volumes::down, volume -> volume.cut(0, 65))
                .badArgument("size -1, and down", Volumes::down, volume -> volume.cut(0, -1));
        steps(edges);
        whatIsLeft(edges);
        crashes(edges);
    }

    private static void steps(Edges edges) {
        edges.on("Returns how many steps there were; NONE if a crash has come.")
                .test("0 for a file without places", () -> Due.same("cut", Due.withFiles(1).cut(0, 0), 0))
                .test("0 if its last place is ahead of the size", () -> stepsOf(16, 16, 0))
                .test("1 for the last place alone", () -> stepsOf(16, 15, 1))
                .test("64, the most", Promise08Edges::sixtyFourSteps);
        edges.on("as long as a place from the size on is mapped, the last mapped place and up to 3 more "
                + "right ahead of it, as far as they are of the same extent and not below the size, "
                + "have nothing, and their blocks are free")
                .test("three places: one step", () -> stepsOf(16, 13, 1))
                .test("four places: one step", () -> stepsOf(16, 12, 1))
                .test("five places: two steps", () -> stepsOf(16, 11, 2))
                .test("eight places: two steps", () -> stepsOf(16, 8, 2))
                .test("nine places: three steps", () -> stepsOf(16, 7, 3))
                .test("a place ahead without a block ends a step", Promise08Edges::placesWithAGap)
                .test("a block that is not the one ahead ends a step", Promise08Edges::blocksWithAGap)
                .test("blocks one behind the other, at places that are not", Promise08Edges::sameBlocksOtherPlaces)
                .test("falling blocks are one extent each", Promise08Edges::fallingBlocks)
                .test("the steps go from the last place on", Promise08Edges::lastPlaceFirst)
                .test("a step stays from the size on, within one extent", Promise08Edges::notBelowTheSize);
    }

    private static void whatIsLeft(Edges edges) {
        edges.on("To cut a file to a size (the places from the size on are to have nothing), "
                + "it is put on the list, with this size")
                .test("the place of the size has nothing, the one ahead stays", Promise08Edges::borderOfMapped)
                .test("a start cuts to the size that was given", Promise08Edges::startCutsToTheSize);
        edges.on("reserved places from the size on have nothing then, and blocks kept for the file are free")
                .test("a reserved place at the size and one ahead of it", Promise08Edges::borderOfReserved)
                .test("reserved place 63, cut to 63 and to 64", Promise08Edges::lastReservedPlace)
                .test("reserved places are no steps", Promise08Edges::reservedAreNoSteps)
                .test("kept blocks, also if no place is cut", Promise08Edges::keptAreFree)
                .test("kept blocks of other files stay", Promise08Edges::othersKeptStay);
        edges.on("Behind all steps it is off the list.")
                .test("with steps", () -> offTheList(0))
                .test("without a step", () -> offTheList(64));
    }

    private static void crashes(Edges edges) {
        edges.on("A crash comes when it is called for, or right behind a step, if it was told so; "
                + "steps and all else that would follow do not come then.")
                .test("behind the first of two steps", () -> crashBehindStep(1, 8, 4))
                .test("behind the last of two steps, still on the list", () -> crashBehindStep(2, 8, 0))
                .test("told for a third one of two: none comes", Promise08Edges::noThirdStep)
                .test("no step, no crash", Promise08Edges::noStepNoCrash)
                .test("a crash frees what is kept and reserved of all files", Promise08Edges::crashOfAll);
    }

    private static void thatOneAlone() {
        Buddyfield volume = Due.withFiles(3);
        for (int file = 0; file < 3; file++) {
            Due.writeAndFlush(volume, file, 0, 8);
        }
        Due.same("cut", volume.cut(1, 4), 1);
        Due.same("file 0", volume.extent(0, 0), 800);
        Due.same("file 1", volume.extent(1, 0), 432);
        Due.same("file 2", volume.extent(2, 0), 864);
    }

    private static void cutOf64(int size, int steps) {
        Buddyfield volume = Due.withFiles(1);
        Due.writeAndFlush(volume, 0, 0, 64);
        Due.same("cut", volume.cut(0, size), steps);
        for (int place = 0; place < 64; place++) {
            Due.same("place " + place, volume.blockAt(0, place), place < size ? place : Buddyfield.NONE);
        }
        Due.same("free", volume.free(), 128 - size);
        Due.same("freeByFiles", volume.freeByFiles(), 128 - size);
        Due.same("files", volume.files(), 1);
    }

    /** A cut of a file with so many places in one extent. */
    private static void stepsOf(int places, int size, int want) {
        Buddyfield volume = Due.withFiles(1);
        Due.writeAndFlush(volume, 0, 0, places);
        Due.same("cut", volume.cut(0, size), want);
        Due.same("free", volume.free(), 128 - size);
        Due.same("none any more", volume.cut(0, size), 0);
    }

    private static void sixtyFourSteps() {
        Buddyfield volume = Volumes.everyOtherBlock();
        Due.same("extents", volume.extents(0), 64);
        Due.same("cut", volume.cut(0, 0), 64);
        Due.same("free", volume.free(), 64);
    }

    /** The places 0 to 2 with the blocks 0 to 2, and the places 4 and 5 with 4 and 5. */
    private static void placesWithAGap() {
        Buddyfield volume = Due.withFiles(1);
        Due.writeAndFlush(volume, 0, 0, 2);
        Due.writeAndFlush(volume, 0, 2, 1);
        Due.writeAndFlush(volume, 0, 4, 2);
        Due.same("places", Due.blocks(volume, 0, 0, 6), "0 1 2 -1 4 5");
        Due.same("two steps for five places", volume.cut(0, 0), 2);
    }

    /** The places 0 and 1 with the blocks 0 and 1, and the places 2 and 3 with 4 and 5. */
    private static void blocksWithAGap() {
        Buddyfield volume = Due.withFiles(5);
        Due.writeAndFlush(volume, 0, 0, 2);
        Due.writeAndFlush(volume, 4, 0, 2);
        Due.writeAndFlush(volume, 0, 2, 2);
        Due.same("places", Due.blocks(volume, 0, 0, 4), "0 1 4 5");
        Due.same("two steps for four places", volume.cut(0, 0), 2);
        Due.same("the blocks between stay", volume.isFree(2) || volume.isFree(3), false);
        Due.same("free", volume.free(), 126);
    }

    /** The places 0 and 9 with the blocks 0 and 1. */
    private static void sameBlocksOtherPlaces() {
        Buddyfield volume = Due.withFiles(1);
        Due.writeAndFlush(volume, 0, 0, 1);
        Due.writeAndFlush(volume, 0, 9, 1);
        Due.same("block at place 9", volume.blockAt(0, 9), 1);
        Due.same("two steps", volume.cut(0, 0), 2);
    }

    /** The places 2, 1, 0 get the blocks 0, 1, 2. */
    private static void fallingBlocks() {
        Buddyfield volume = Due.withFiles(1);
        for (int place = 2; place >= 0; place--) {
            Due.writeAndFlush(volume, 0, place, 1);
        }
        Due.same("places", Due.blocks(volume, 0, 0, 3), "2 1 0");
        Due.same("three steps", volume.cut(0, 0), 3);
    }

    private static void lastPlaceFirst() {
        Buddyfield volume = Due.withFiles(1);
        Due.writeAndFlush(volume, 0, 0, 10);
        volume.crashBehind(1);
        volume.cut(0, 0);
        Due.same("places", Due.blocks(volume, 0, 4, 6), "4 5 -1 -1 -1 -1");
    }

    private static void notBelowTheSize() {
        Buddyfield volume = Due.withFiles(1);
        Due.writeAndFlush(volume, 0, 0, 16);
        Due.same("7 to 15", volume.cut(0, 7), 3);
        Due.same("4 to 6", volume.cut(0, 4), 1);
        Due.same("0 to 3 stay", volume.extent(0, 0), 400);
    }

    // ---- what a cut leaves

    private static void borderOfMapped() {
        Buddyfield volume = Due.withFiles(1);
        Due.writeAndFlush(volume, 0, 0, 8);
        volume.cut(0, 5);
        Due.same("places", Due.blocks(volume, 0, 3, 4), "3 4 -1 -1");
        Due.same("blocks", volume.isFree(5) && !volume.isFree(4), true);
    }

    private static void startCutsToTheSize() {
        Buddyfield volume = Due.withFiles(1);
        Due.writeAndFlush(volume, 0, 0, 16);
        volume.crashBehind(1);
        volume.cut(0, 3);
        Due.same("start", volume.start(), 1);
        Due.same("places", Due.blocks(volume, 0, 1, 4), "1 2 -1 -1");
        Due.same("free", volume.free(), 125);
    }

    private static void borderOfReserved() {
        Buddyfield volume = Due.withFiles(1);
        volume.write(0, 10, 4);
        Due.same("cut", volume.cut(0, 12), 0);
        Due.same("places", Due.blocks(volume, 0, 9, 6), "-1 -2 -2 -1 -1 -1");
        Due.same("reserved", volume.reserved(), 2);
        Due.same("cut", volume.cut(0, 10), 0);
        Due.same("reserved", volume.reserved(), 0);
    }

    private static void lastReservedPlace() {
        Buddyfield volume = Due.withFiles(1);
        volume.write(0, 62, 2);
        volume.cut(0, 64);
        Due.same("cut to 64", volume.reserved(), 2);
        volume.cut(0, 63);
        Due.same("cut to 63", volume.reserved(), 1);
        Due.same("place 62", volume.blockAt(0, 62), Buddyfield.RESERVED);
        Due.same("place 63", volume.blockAt(0, 63), Buddyfield.NONE);
    }

    private static void reservedAreNoSteps() {
        Buddyfield volume = Due.withFiles(1);
        Due.writeAndFlush(volume, 0, 0, 4);
        volume.write(0, 4, 60);
        Due.same("cut", volume.cut(0, 4), 0);
        Due.same("reserved", volume.reserved(), 0);
        Due.same("mapped places stay", volume.extent(0, 0), 400);
    }

    private static void keptAreFree() {
        Buddyfield volume = Volumes.fiveOfEight();
        Due.same("kept", volume.kept(), 3);
        Due.same("cut", volume.cut(0, 64), 0);
        Due.same("kept", volume.kept(), 0);
        Due.same("free", volume.free(), 123);
        Due.same("blocks", volume.isFree(5) && volume.isFree(7) && !volume.isFree(4), true);
    }

    private static void othersKeptStay() {
        Buddyfield volume = Due.withFiles(2);
        Due.writeAndFlush(volume, 0, 0, 5);
        Due.writeAndFlush(volume, 1, 0, 9);
        volume.write(1, 20, 2);
        volume.cut(0, 0);
        Due.same("kept", volume.kept(), 7);
        Due.same("reserved", volume.reserved(), 2);
    }

    private static void offTheList(int size) {
        Buddyfield volume = Due.withFiles(1);
        Due.writeAndFlush(volume, 0, 0, 16);
        volume.cut(0, size);
        Due.same("listed", volume.listed(), 0);
        volume.crash();
        Due.same("start", volume.start(), 0);
        Due.same("files", volume.files(), 1);
    }

    // ---- crashes

    private static void crashBehindStep(int step, int places, int left) {
        Buddyfield volume = Due.withFiles(1);
        Due.writeAndFlush(volume, 0, 0, places);
        volume.crashBehind(step);
        Due.same("cut", volume.cut(0, 0), Buddyfield.NONE);
        Due.same("isDown", volume.isDown(), true);
        Due.same("listed", volume.listed(), 1);
        Due.same("free", volume.free(), 128 - left);
        Due.same("start", volume.start(), 1);
        Due.same("free", volume.free(), 128);
        Due.same("listed", volume.listed(), 0);
    }

    private static void noThirdStep() {
        Buddyfield volume = Due.withFiles(1);
        Due.writeAndFlush(volume, 0, 0, 8);
        volume.crashBehind(3);
        Due.same("cut", volume.cut(0, 0), 2);
        Due.same("isDown", volume.isDown(), false);
        Due.writeAndFlush(volume, 0, 0, 1);
        Due.same("the next step is the third", volume.cut(0, 0), Buddyfield.NONE);
    }

    private static void noStepNoCrash() {
        Buddyfield volume = Due.withFiles(1);
        volume.write(0, 0, 5);
        volume.crashBehind(1);
        Due.same("cut", volume.cut(0, 0), 0);
        Due.same("isDown", volume.isDown(), false);
    }

    private static void crashOfAll() {
        Buddyfield volume = Due.withFiles(3);
        Due.writeAndFlush(volume, 0, 0, 8);
        Due.writeAndFlush(volume, 1, 0, 5);
        volume.write(2, 0, 7);
        volume.open(1);
        volume.crashBehind(1);
        volume.cut(0, 0);
        Due.same("kept", volume.kept(), 0);
        Due.same("reserved", volume.reserved(), 0);
        Due.same("opens", volume.opens(1), 0);
        Due.same("free", volume.free(), 128 - 4 - 5);
    }
}
