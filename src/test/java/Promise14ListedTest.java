/** Promise 14: listed. */
public final class Promise14ListedTest {

    public static void main(String[] args) {
        Buddyfield volume = Due.withFiles(4);
        volume.open(0);
        volume.open(1);
        Due.same("none", volume.listed(), 0);
        volume.delete(0);
        Due.same("one to be deleted", volume.listed(), 1);
        volume.delete(1);
        Due.same("two", volume.listed(), 2);
        volume.cut(1, 64);
        Due.same("cutting does not take it off", volume.listed(), 2);
        volume.close(1);
        Due.same("closed", volume.listed(), 1);
        volume.delete(2);
        Due.same("deleted at once", volume.listed(), 1);
        Due.writeAndFlush(volume, 3, 0, 9);
        volume.cut(3, 8);
        Due.same("cut at once", volume.listed(), 1);
        volume.crashBehind(1);
        volume.cut(3, 0);
        Due.same("one being cut, one to be deleted", volume.listed(), 2);
        volume.start();
        Due.same("started", volume.listed(), 0);
        Due.end("promise 14");
    }
}
