/** Promise 12. */
final class Promise12Edges {

    private Promise12Edges() {
    }

    static void tests(Edges edges) {
        edges.promise(12);
        edges.on("Tells whether the volume is down.")
                .test("not a new one", () -> Due.same("isDown", new Buddyfield().isDown(), false))
                .test("not with a crash that was only told", () -> Due.same("isDown", Volumes.busy().isDown(), false))
                .test("behind the step for which it was told, not behind the one ahead", Promise12Edges::behindItsStep)
                .test("behind a crash that was called for", Promise12Edges::calledFor)
                .test("not behind a start", Promise12Edges::started)
                .test("not behind a full volume's refusals", Promise12Edges::refusals);
    }

    private static void behindItsStep() {
        Buddyfield volume = Due.withFiles(1);
        Due.writeAndFlush(volume, 0, 0, 8);
        volume.crashBehind(2);
        volume.cut(0, 4);
        Due.same("one step", volume.isDown(), false);
        volume.cut(0, 0);
        Due.same("two steps", volume.isDown(), true);
    }

    private static void calledFor() {
        Buddyfield volume = new Buddyfield();
        volume.crash();
        Due.same("isDown", volume.isDown(), true);
    }

    private static void started() {
        Buddyfield volume = Volumes.down();
        Due.same("isDown", volume.isDown(), true);
        volume.start();
        Due.same("isDown", volume.isDown(), false);
    }

    private static void refusals() {
        Buddyfield volume = Volumes.leaving(0);
        Due.badState(volume, "write", () -> volume.write(0, 0, 1));
        Due.same("isDown", volume.isDown(), false);
    }
}
