/**
 * A refused call: it throws just the exception that is due, and it changes nothing. What cannot be
 * asked (a crash that was told, the place for which a block is kept, the size on the list) shows
 * only with later calls, so a volume that has refused the call is compared with one that never got it.
 */
final class Refusal {

    interface Making {
        Buddyfield make();
    }

    interface CallOn {
        void on(Buddyfield volume);
    }

    private static final int FILES = 16;

    private Refusal() {
    }

    static void due(Class<? extends RuntimeException> exception, Making making, CallOn call) {
        Buddyfield volume = making.make();
        Due.same("the call", thrownBy(volume, call), exception);
        Due.same("the state behind it", Due.stateOf(volume), Due.stateOf(making.make()));
        CallOn[] laterCalls = {Refusal::writeAndFlush, Refusal::cutAll, Refusal::closeAll,
            Refusal::deleteAll, Refusal::createMore, Refusal::crashAndStart};
        for (CallOn later : laterCalls) {
            Buddyfield touched = making.make();
            thrownBy(touched, call);
            later.on(touched);
            Buddyfield untouched = making.make();
            later.on(untouched);
            Due.same("the state behind later calls", Due.stateOf(touched), Due.stateOf(untouched));
        }
    }

    private static Class<?> thrownBy(Buddyfield volume, CallOn call) {
        try {
            call.on(volume);
            return null;
        } catch (RuntimeException e) {
            return e.getClass();
        }
    }

    private static void startIfDown(Buddyfield volume) {
        if (volume.isDown()) {
            volume.start();
        }
    }

    private static void writeAndFlush(Buddyfield volume) {
        startIfDown(volume);
        for (int file = 0; file < FILES; file++) {
            int number = file;
            thrownBy(volume, each -> each.write(number, 0, 20));
            thrownBy(volume, each -> each.flush(number));
            thrownBy(volume, each -> each.write(number, 20, 3));
            thrownBy(volume, each -> each.flush(number));
        }
    }

    /** Without a start behind a crash, so that a crash that was told shows. */
    private static void cutAll(Buddyfield volume) {
        startIfDown(volume);
        for (int file = FILES - 1; file >= 0; file--) {
            int number = file;
            thrownBy(volume, each -> each.cut(number, 0));
        }
    }

    private static void closeAll(Buddyfield volume) {
        startIfDown(volume);
        for (int times = 0; times < 3; times++) {
            for (int file = 0; file < FILES; file++) {
                int number = file;
                thrownBy(volume, each -> each.close(number));
            }
        }
    }

    private static void deleteAll(Buddyfield volume) {
        startIfDown(volume);
        for (int name = 0; name < 1000; name++) {
            if (volume.fileOf(name) != Buddyfield.NONE && !volume.isDown()) {
                volume.delete(name);
            }
        }
    }

    private static void createMore(Buddyfield volume) {
        startIfDown(volume);
        for (int name = 80; name < 1000; name += 16) {
            int next = name;
            thrownBy(volume, each -> each.create(next));
        }
    }

    private static void crashAndStart(Buddyfield volume) {
        thrownBy(volume, Buddyfield::crash);
        volume.start();
    }
}
