/** Promise 15. */
final class Promise15Edges {

    private Promise15Edges() {
    }

    static void tests(Edges edges) {
        edges.promise(15);
        edges.on("Returns how often a file is open.")
                .test("that of the file asked for", Promise15Edges::ofThatFile);
        edges.on("Returns how often.")
                .test("0 at first", () -> Due.same("opens", Due.withFiles(1).opens(0), 0))
                .test("0, 1, 2, 1, 0", Promise15Edges::upAndDown)
                .test("0 behind a crash", () -> Due.same("opens", Volumes.down().opens(3), 0))
                .test("as before behind a delete", () -> Due.same("opens", Volumes.busy().opens(3), 1));
        edges.on("`file`: a file")
                .test("file 0", () -> Due.same("opens", Volumes.full().opens(0), 0))
                .test("file 15", () -> Due.same("opens", Volumes.full().opens(15), 0))
                .test("while down", () -> Due.same("opens", Volumes.down().opens(7), 0));
        edges.on("Throws `IndexOutOfBoundsException` if there is no such file")
                .noSuchFile(Buddyfield::opens).noSuchFileWhileDown(Buddyfield::opens);
    }

    private static void ofThatFile() {
        Buddyfield volume = Volumes.busy();
        int[] want = {0, 2, 0, 1, 0, 0, 0, 0};
        for (int file = 0; file < want.length; file++) {
            Due.same("opens " + file, volume.opens(file), want[file]);
        }
    }

    private static void upAndDown() {
        Buddyfield volume = Due.withFiles(1);
        volume.open(0);
        Due.same("opens", volume.opens(0), 1);
        volume.open(0);
        Due.same("opens", volume.opens(0), 2);
        volume.close(0);
        Due.same("opens", volume.opens(0), 1);
        volume.close(0);
        Due.same("opens", volume.opens(0), 0);
    }
}
