/** Promise 9: crashBehind. */
public final class Promise09CrashBehindTest {

    public static void main(String[] args) {
        stepsAreCountedOverCalls();
        theLaterWordCounts();
        theMostSteps();
        aCrashComesOnce();
        wrongInputs();
        Due.end("promise 9");
    }

    private static void stepsAreCountedOverCalls() {
        Buddyfield volume = Due.withFiles(2);
        Due.writeAndFlush(volume, 0, 0, 16);
        Due.writeAndFlush(volume, 1, 0, 16);
        volume.cut(1, 12);
        volume.crashBehind(4);
        Due.same("two steps", volume.cut(0, 8), 2);
        Due.same("writing is no step", Due.writeAndFlush(volume, 0, 8, 1), 1);
        Due.same("a third step", volume.cut(0, 8), 1);
        Due.same("the fourth one", volume.delete(1), Buddyfield.NONE);
        Due.same("down", volume.isDown(), true);
        Due.same("eight of file 1 are left", volume.extent(1, 0), 832);
    }

    private static void theLaterWordCounts() {
        Buddyfield volume = Due.withFiles(1);
        Due.writeAndFlush(volume, 0, 0, 16);
        volume.crashBehind(1);
        volume.crashBehind(3);
        Due.same("two steps", volume.cut(0, 8), 2);
        volume.crashBehind(2);
        Due.same("counted anew", volume.cut(0, 4), 1);
        volume.crashBehind(Buddyfield.NONE);
        Due.same("no crash", volume.cut(0, 0), 1);
        Due.same("not down", volume.isDown(), false);
    }

    private static void theMostSteps() {
        Buddyfield volume = Due.withFiles(1);
        volume.crashBehind(50);
        for (int step = 1; step < 50; step++) {
            Due.writeAndFlush(volume, 0, 0, 1);
            Due.same("step " + step, volume.cut(0, 0), 1);
        }
        Due.writeAndFlush(volume, 0, 0, 1);
        Due.same("step 50", volume.cut(0, 0), Buddyfield.NONE);
    }

    private static void aCrashComesOnce() {
        Buddyfield volume = Due.withFiles(1);
        Due.writeAndFlush(volume, 0, 0, 32);
        volume.crashBehind(1);
        Due.same("crash", volume.cut(0, 0), Buddyfield.NONE);
        Due.same("start", volume.start(), 1);
        Due.same("no crash with the start", volume.isDown(), false);
        Due.same("all cut", volume.free(), 128);
        Due.writeAndFlush(volume, 0, 0, 32);
        Due.same("nor behind it", volume.cut(0, 0), 8);
    }

    private static void wrongInputs() {
        Buddyfield volume = Due.withFiles(1);
        Due.badArgument(volume, "steps 0", () -> volume.crashBehind(0));
        Due.badArgument(volume, "steps -2", () -> volume.crashBehind(-2));
        Due.badArgument(volume, "steps 51", () -> volume.crashBehind(51));
        Due.badArgument(volume, "least", () -> volume.crashBehind(Integer.MIN_VALUE));
        Due.badArgument(volume, "greatest", () -> volume.crashBehind(Integer.MAX_VALUE));
        volume.crashBehind(1);
        Due.badArgument(volume, "steps 51", () -> volume.crashBehind(51));
        Due.writeAndFlush(volume, 0, 0, 1);
        Due.same("what was told stays", volume.cut(0, 0), Buddyfield.NONE);
        Due.badState(volume, "down", () -> volume.crashBehind(1));
        Due.badState(volume, "down, no crash", () -> volume.crashBehind(Buddyfield.NONE));
        Due.badArgument(volume, "down and out of range", () -> volume.crashBehind(0));
    }
}
