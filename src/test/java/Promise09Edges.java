/** Promise 9: which step brings the crash. */
final class Promise09Edges {

    private Promise09Edges() {
    }

    static void tests(Edges edges) {
        edges.promise(9);
        edges.on("`steps`: 1 to 50: behind which one; NONE for no crash")
                .test("1, the smallest: behind the next step", () -> crashComesBehind(1))
                .test("2: behind the one after that", () -> crashComesBehind(2))
                .test("49", () -> crashComesBehind(49))
                .test("50, the greatest: behind the 50th step", () -> crashComesBehind(50))
                .test("NONE: none comes", Promise09Edges::noCrash)
                .test("NONE with nothing told before", Promise09Edges::noneWithNothingTold);
        edges.on("Throws `IllegalArgumentException` if steps is out of range");
        for (int steps : new int[] {0, 51, -2, Integer.MIN_VALUE, Integer.MAX_VALUE}) {
            edges.badArgument("steps " + steps, Volumes::busy, volume -> volume.crashBehind(steps));
        }
        edges.badArgument("steps 51, with nothing told: none is told then", Promise09Edges::untold,
                volume -> volume.crashBehind(51));
        edges.on("Throws `IllegalStateException` if the volume is down")
                .badState("steps 1", Volumes::down, volume -> volume.crashBehind(1))
                .badState("steps 50", Volumes::down, volume -> volume.crashBehind(50))
                .badState("NONE", Volumes::down, volume -> volume.crashBehind(Buddyfield.NONE));
        edges.on("If several apply, the one that is named first in the throws clause is thrown.")
                .badArgument("steps 0, and down", Volumes::down, volume -> volume.crashBehind(0))
                .badArgument("steps 51, and down", Volumes::down, volume -> volume.crashBehind(51))
                .badArgument("steps -2, and down", Volumes::down, volume -> volume.crashBehind(-2));
        edges.on("Tells that a crash comes right behind some step from now on; "
                + "it takes the place of what was told so before.")
                .test("steps that came before are not counted", Promise09Edges::fromNowOn)
                .test("steps are counted over cuts, closes and deletes", Promise09Edges::overCalls)
                .test("a later, greater one takes the place", () -> placeTaken(1, 2))
                .test("a later, smaller one takes the place", () -> placeTaken(9, 2))
                .test("the same one is counted anew", Promise09Edges::countedAnew)
                .test("it comes once", Promise09Edges::once)
                .test("a start's own steps bring none", Promise09Edges::notWithAStart)
                .test("nothing but steps is counted", Promise09Edges::nothingButSteps);
    }

    private static void step(Buddyfield volume, int want) {
        Due.writeAndFlush(volume, 0, 0, 1);
        Due.same("cut", volume.cut(0, 0), want);
    }

    private static void crashComesBehind(int steps) {
        Buddyfield volume = Due.withFiles(1);
        volume.crashBehind(steps);
        for (int i = 1; i < steps; i++) {
            step(volume, 1);
        }
        Due.same("not yet", volume.isDown(), false);
        step(volume, Buddyfield.NONE);
        Due.same("isDown", volume.isDown(), true);
    }

    private static void noCrash() {
        Buddyfield volume = Due.withFiles(1);
        volume.crashBehind(2);
        step(volume, 1);
        volume.crashBehind(Buddyfield.NONE);
        for (int i = 0; i < 60; i++) {
            step(volume, 1);
        }
        Due.same("isDown", volume.isDown(), false);
    }

    private static void noneWithNothingTold() {
        Buddyfield volume = Due.withFiles(1);
        volume.crashBehind(Buddyfield.NONE);
        for (int i = 0; i < 60; i++) {
            step(volume, 1);
        }
        Due.same("isDown", volume.isDown(), false);
    }

    private static Buddyfield untold() {
        Buddyfield volume = Volumes.busy();
        volume.crashBehind(Buddyfield.NONE);
        return volume;
    }

    private static void fromNowOn() {
        Buddyfield volume = Due.withFiles(1);
        step(volume, 1);
        step(volume, 1);
        volume.crashBehind(2);
        step(volume, 1);
        step(volume, Buddyfield.NONE);
    }

    /** Two steps of a cut, one with the last close of a deleted file, one with a delete. */
    private static void overCalls() {
        Buddyfield volume = Due.withFiles(3);
        for (int file = 0; file < 3; file++) {
            Due.writeAndFlush(volume, file, 0, file == 0 ? 8 : 4);
        }
        volume.open(1);
        volume.delete(1);
        volume.crashBehind(4);
        Due.same("cut", volume.cut(0, 0), 2);
        Due.same("close", volume.close(1), 0);
        Due.same("delete", volume.delete(2), Buddyfield.NONE);
        Due.same("isDown", volume.isDown(), true);
    }

    private static void placeTaken(int before, int then) {
        Buddyfield volume = Due.withFiles(1);
        volume.crashBehind(before);
        volume.crashBehind(then);
        step(volume, 1);
        step(volume, Buddyfield.NONE);
    }

    private static void countedAnew() {
        Buddyfield volume = Due.withFiles(1);
        volume.crashBehind(2);
        step(volume, 1);
        volume.crashBehind(2);
        step(volume, 1);
        step(volume, Buddyfield.NONE);
    }

    private static void once() {
        Buddyfield volume = Due.withFiles(1);
        volume.crashBehind(1);
        step(volume, Buddyfield.NONE);
        volume.start();
        for (int i = 0; i < 60; i++) {
            step(volume, 1);
        }
        Due.same("isDown", volume.isDown(), false);
    }

    private static void notWithAStart() {
        Buddyfield volume = Due.withFiles(1);
        Due.writeAndFlush(volume, 0, 0, 64);
        volume.crashBehind(1);
        Due.same("cut", volume.cut(0, 0), Buddyfield.NONE);
        Due.same("start", volume.start(), 1);
        Due.same("isDown", volume.isDown(), false);
        Due.same("free", volume.free(), 128);
    }

    /** A call for a crash ends what was told, so it is left out here; all the others do not count. */
    private static void nothingButSteps() {
        Buddyfield volume = Due.withFiles(2);
        volume.crashBehind(1);
        volume.create(10);
        volume.open(10);
        Due.writeAndFlush(volume, 2, 0, 5);
        volume.write(2, 20, 2);
        volume.cut(2, 20);
        volume.delete(1);
        volume.delete(10);
        Due.same("isDown", volume.isDown(), false);
        Due.same("the first step", volume.close(2), Buddyfield.NONE);
    }
}
