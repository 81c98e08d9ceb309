/** Promise 15: opens. */
public final class Promise15OpensTest {

    public static void main(String[] args) {
        Buddyfield volume = Due.withFiles(2);
        Due.same("not open", volume.opens(0), 0);
        for (int times = 1; times <= 5; times++) {
            volume.open(1);
            Due.same("opens", volume.opens(1), times);
        }
        Due.same("the other one", volume.opens(0), 0);
        volume.close(1);
        Due.same("closed once", volume.opens(1), 4);
        volume.delete(1);
        Due.same("to be deleted", volume.opens(1), 4);
        volume.crash();
        Due.same("crashed", volume.opens(1), 0);
        Due.outOfBounds(volume, "file -1", () -> volume.opens(-1));
        Due.outOfBounds(volume, "file 2", () -> volume.opens(2));
        Due.outOfBounds(volume, "file 16", () -> volume.opens(16));
        Due.outOfBounds(volume, "least", () -> volume.opens(Integer.MIN_VALUE));
        Due.outOfBounds(volume, "greatest", () -> volume.opens(Integer.MAX_VALUE));
        Due.end("promise 15");
    }
}
