/** Promise 3. */
final class Promise03Edges {

    private Promise03Edges() {
    }

    static void tests(Edges edges) {
        edges.promise(3);
        edges.on("Opens the file with a name once more.")
                .test("from 0 to 1, 2 and 3 times", Promise03Edges::onceMore)
                .test("510 times, asked by the 512th call", Promise03Edges::manyTimes)
                .test("the other files are not opened", Promise03Edges::othersStayClosed)
                .test("anew behind a start", Promise03Edges::behindStart);
        edges.on("`name`: 0 to 999")
                .test("0, the smallest, is taken", () -> Due.same("open", Volumes.named(999, 0).open(0), 1))
                .test("999, the greatest, is taken", () -> Due.same("open", Volumes.named(999, 0).open(999), 0));
        edges.on("Throws `IllegalArgumentException` if name is out of range").nameOutOfRange(Buddyfield::open);
        edges.on("Returns the number of the file.")
                .test("0", () -> Due.same("open", Volumes.full().open(0), 0))
                .test("15", () -> Due.same("open", Volumes.full().open(240), 15));
        edges.on("Throws `IllegalStateException` if there is no such name")
                .badState("no names at all", Buddyfield::new, volume -> volume.open(0))
                .badState("not among some", Volumes::busy, volume -> volume.open(80))
                .badState("a name that was deleted", Volumes::withoutFile2, volume -> volume.open(32))
                .badState("a name that was deleted, its file still open", Volumes::busy, volume -> volume.open(48));
        edges.on("if the volume is down, for all methods that are named as those that change something")
                .badState("down", Volumes::down, volume -> volume.open(0))
                .badState("down, and no such name", Volumes::down, volume -> volume.open(80));
        edges.on("If several apply, the one that is named first in the throws clause is thrown.")
                .nameOutOfRangeWhileDown(Buddyfield::open);
    }

    private static void onceMore() {
        Buddyfield volume = Volumes.named(30);
        for (int times = 1; times <= 3; times++) {
            volume.open(30);
            Due.same("opens", volume.opens(0), times);
        }
    }

    private static void manyTimes() {
        Buddyfield volume = Volumes.named(30);
        for (int times = 0; times < 510; times++) {
            volume.open(30);
        }
        Due.same("opens", volume.opens(0), 510);
    }

    private static void othersStayClosed() {
        Buddyfield volume = Due.withFiles(3);
        volume.open(1);
        Due.same("the one ahead", volume.opens(0), 0);
        Due.same("the one behind", volume.opens(2), 0);
    }

    private static void behindStart() {
        Buddyfield volume = Volumes.named(30);
        volume.open(30);
        volume.open(30);
        volume.crash();
        volume.start();
        volume.open(30);
        Due.same("opens", volume.opens(0), 1);
    }
}
