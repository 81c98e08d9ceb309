/** Promises 16 and 17: how many blocks are free, in both ways. */
final class Promise16Edges {

    private Promise16Edges() {
    }

    static void tests(Edges edges) {
        edges.promise(16).on("Returns how many blocks are free.");
        all(edges);
        edges.promise(17).on("Returns the same, counted from the places of all files and the kept blocks.");
        all(edges);
    }

    private static void all(Edges edges) {
        edges.test("128, the most, at first", () -> freeDue(new Buddyfield(), 128))
                .test("128 with all of them reserved", () -> freeDue(Volumes.leaving(0), 128))
                .test("0, with all of them mapped", () -> freeDue(Volumes.allMapped(), 0))
                .test("0, with one of them kept and all others mapped", () -> freeDue(allMappedButAKeptOne(), 0))
                .test("1 behind a cut of one place of a full volume", Promise16Edges::oneCut)
                .test("a kept block is not free", () -> freeDue(Volumes.fiveOfEight(), 120))
                .test("it is free behind a crash", Promise16Edges::crashed)
                .test("the blocks of an open file that is to be deleted are not free",
                        () -> freeDue(Volumes.busy(), 84))
                .test("those that steps have cut ahead of a crash are free", () -> freeDue(Volumes.down(), 102))
                .test("128 again when all files are deleted", Promise16Edges::allDeleted);
    }

    private static void freeDue(Buddyfield volume, int want) {
        Due.same("free", volume.free(), want);
        Due.same("freeByFiles", volume.freeByFiles(), want);
    }

    private static Buddyfield allMappedButAKeptOne() {
        Buddyfield volume = Due.withFiles(2);
        Due.writeAndFlush(volume, 0, 0, 64);
        Due.writeAndFlush(volume, 1, 0, 63);
        Due.same("kept", volume.kept(), 1);
        return volume;
    }

    private static void oneCut() {
        Buddyfield volume = Volumes.allMapped();
        volume.cut(1, 63);
        freeDue(volume, 1);
    }

    private static void crashed() {
        Buddyfield volume = Volumes.fiveOfEight();
        volume.crash();
        freeDue(volume, 123);
    }

    private static void allDeleted() {
        Buddyfield volume = Volumes.full();
        freeDue(volume, 112);
        for (int file = 0; file < 16; file++) {
            volume.delete(16 * file);
        }
        freeDue(volume, 128);
    }
}
