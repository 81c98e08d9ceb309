/** Promise 13. */
final class Promise13Edges {

    private Promise13Edges() {
    }

    static void tests(Edges edges) {
        edges.promise(13);
        edges.on("Returns how many files there are.")
                .test("0 at first", () -> Due.same("files", new Buddyfield().files(), 0))
                .test("1 to 16, the most", Promise13Edges::upTo16)
                .test("16 behind a refused 17th", Promise13Edges::refused17th)
                .test("0 again when all are deleted", Promise13Edges::downTo0)
                .test("with one to be deleted that is open", () -> Due.same("files", Volumes.busy().files(), 8))
                .test("with one whose delete a crash has ended", Promise13Edges::withHalfDeleted);
        edges.on("Files have the numbers 0 to 15, and the places 0 to 63.")
                .test("number 0 and number 15, place 0 and place 63", Promise13Edges::firstAndLast)
                .outOfBounds("number 16", Volumes::full, volume -> volume.opens(16))
                .badArgument("place 64", Volumes::full, volume -> volume.blockAt(15, 64));
    }

    private static void upTo16() {
        Buddyfield volume = new Buddyfield();
        for (int many = 1; many <= 16; many++) {
            volume.create(many);
            Due.same("files", volume.files(), many);
        }
    }

    private static void refused17th() {
        Buddyfield volume = Volumes.full();
        Due.badState(volume, "create", () -> volume.create(999));
        Due.same("files", volume.files(), 16);
    }

    private static void downTo0() {
        Buddyfield volume = Volumes.full();
        for (int file = 15; file >= 0; file--) {
            volume.delete(16 * file);
            Due.same("files", volume.files(), file);
        }
        Due.same("free", volume.free(), 128);
    }

    private static void withHalfDeleted() {
        Buddyfield volume = Due.withFiles(2);
        Due.writeAndFlush(volume, 1, 0, 8);
        volume.crashBehind(1);
        volume.delete(1);
        Due.same("down", volume.files(), 2);
        volume.start();
        Due.same("started", volume.files(), 1);
    }

    private static void firstAndLast() {
        Buddyfield volume = Volumes.full();
        for (int file : new int[] {0, 15}) {
            volume.write(file, 0, 64);
            volume.flush(file);
            Due.same("place 0", volume.blockAt(file, 0) >= 0, true);
            Due.same("place 63", volume.blockAt(file, 63) >= 0, true);
            volume.cut(file, 0);
        }
    }
}
