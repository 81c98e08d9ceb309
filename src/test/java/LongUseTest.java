/**
 * Behind the 512th call answers are free, but a call must still end, and throw nothing that its
 * throws clause does not name. Within 512 calls nothing may be refused for want of leaves.
 */
public final class LongUseTest {

    public static void main(String[] args) {
        manyLeavesWithin512Calls();
        farMoreCalls();
        Due.end("long use");
    }

    /** Names of one hash, of which some five are there at a time: a split comes with every other create. */
    private static void manyLeavesWithin512Calls() {
        Buddyfield volume = new Buddyfield();
        Model model = new Model();
        for (int turn = 0; turn < 256; turn++) {
            int name = turn % 62 * 16;
            Due.same("create " + name, volume.create(name), model.create(name));
            int older = (turn + 57) % 62 * 16;
            if (turn >= 5) {
                Due.same("delete " + older, volume.delete(older), model.delete(older));
            }
        }
        Due.same("leaves", volume.leaves(), model.leaves());
        Due.same("many", volume.leaves() > 100, true);
        for (int name = 0; name < 1000; name++) {
            Due.same("looks " + name, volume.looks(name), model.looks(name));
        }
    }

    private static void farMoreCalls() {
        Buddyfield volume = new Buddyfield();
        int refused = 0;
        for (int turn = 0; turn < 20000; turn++) {
            try {
                callsOf(volume, turn);
            } catch (IllegalStateException e) {
                refused++;
            }
        }
        Due.same("leaves are limited, so some calls are refused", refused > 0, true);
        Due.same("leaves", volume.leaves() <= 512, true);
        Due.same("free", volume.free(), volume.freeByFiles());
    }

    private static void callsOf(Buddyfield volume, int turn) {
        int name = turn % 62 * 16;
        int older = (turn + 57) % 62 * 16;
        if (volume.fileOf(older) != Buddyfield.NONE) {
            volume.delete(older);
        }
        int file = volume.create(name);
        Due.writeAndFlush(volume, file, turn % 60, 5);
        if (turn % 100 == 99) {
            volume.crash();
            volume.start();
        }
    }
}
