/** Promise 12: isDown, and that questions are answered while the volume is down. */
public final class Promise12IsDownTest {

    public static void main(String[] args) {
        Buddyfield volume = Due.withFiles(1);
        Due.same("new", volume.isDown(), false);
        volume.crashBehind(1);
        Due.same("told only", volume.isDown(), false);
        Due.writeAndFlush(volume, 0, 0, 2);
        Due.same("no step yet", volume.isDown(), false);
        volume.cut(0, 1);
        Due.same("behind the step", volume.isDown(), true);
        Due.same("questions are possible", volume.extent(0, 0), 100);
        Due.same("and", volume.fileOf(0), 0);
        Due.same("and", volume.looks(0), 1);
        volume.start();
        Due.same("started", volume.isDown(), false);
        volume.crash();
        Due.same("crashed", volume.isDown(), true);
        Due.end("promise 12");
    }
}
