import java.util.Objects;

/** What the tests share: comparing answers, watching exceptions, and reading all that can be asked. */
final class Due {

    interface Call {
        void run();
    }

    private static final int MOST_PRINTED = 40;

    private static int checks = 0;
    private static int wrong = 0;

    private Due() {
    }

    static int checks() {
        return checks;
    }

    static int wrong() {
        return wrong;
    }

    static void same(String call, Object got, Object want) {
        checks++;
        if (!Objects.equals(got, want)) {
            wrong++;
            if (wrong <= MOST_PRINTED) {
                System.out.println(call + " answered " + got + ", due is " + want);
            }
        }
    }

    static void outOfBounds(Buddyfield volume, String what, Call call) {
        refused(volume, what, IndexOutOfBoundsException.class, call);
    }

    static void badArgument(Buddyfield volume, String what, Call call) {
        refused(volume, what, IllegalArgumentException.class, call);
    }

    static void badState(Buddyfield volume, String what, Call call) {
        refused(volume, what, IllegalStateException.class, call);
    }

    /** The exception must be of just the class that is due, and nothing may have changed. */
    private static void refused(Buddyfield volume, String what, Class<?> due, Call call) {
        String before = stateOf(volume);
        Class<?> got = null;
        try {
            call.run();
        } catch (RuntimeException e) {
            got = e.getClass();
        }
        same(what + ": exception", got, due);
        same(what + ": state behind the exception", stateOf(volume), before);
    }

    static String stateOf(Buddyfield volume) {
        StringBuilder text = new StringBuilder();
        text.append("down ").append(volume.isDown()).append(" files ").append(volume.files())
                .append(" listed ").append(volume.listed()).append(" free ").append(volume.free())
                .append(" byFiles ").append(volume.freeByFiles()).append(" reserved ").append(volume.reserved())
                .append(" kept ").append(volume.kept()).append(" leaves ").append(volume.leaves());
        for (int file = 0; file < 16; file++) {
            appendFile(text, volume, file);
        }
        text.append("\nblocks ");
        for (int block = 0; block < 128; block++) {
            text.append(volume.isFree(block) ? '.' : '#');
        }
        text.append("\npieces");
        for (int group = 0; group < 4; group++) {
            for (int order = 0; order < 6; order++) {
                text.append(' ').append(volume.pieces(group, order));
            }
        }
        text.append("\nnames");
        for (int name = 0; name < 1000; name++) {
            text.append(' ').append(volume.fileOf(name)).append('/').append(volume.looks(name));
        }
        return text.toString();
    }

    private static void appendFile(StringBuilder text, Buddyfield volume, int file) {
        text.append("\nfile ").append(file);
        int opens;
        try {
            opens = volume.opens(file);
        } catch (IndexOutOfBoundsException e) {
            text.append(" none");
            return;
        }
        text.append(" opens ").append(opens).append(" average ").append(volume.average(file)).append(" extents");
        for (int extent = 0; extent < volume.extents(file); extent++) {
            text.append(' ').append(volume.extent(file, extent));
        }
        text.append(" places");
        for (int place = 0; place < 64; place++) {
            text.append(' ').append(volume.blockAt(file, place));
        }
    }

    /** Blocks at the places from first on, as one text. */
    static String blocks(Buddyfield volume, int file, int first, int many) {
        StringBuilder text = new StringBuilder();
        for (int place = first; place < first + many; place++) {
            text.append(place == first ? "" : " ").append(volume.blockAt(file, place));
        }
        return text.toString();
    }

    /** A volume with some files, whose names are their numbers. */
    static Buddyfield withFiles(int many) {
        Buddyfield volume = new Buddyfield();
        for (int name = 0; name < many; name++) {
            volume.create(name);
        }
        return volume;
    }

    static int writeAndFlush(Buddyfield volume, int file, int first, int many) {
        volume.write(file, first, many);
        return volume.flush(file);
    }

    static void end(String test) {
        System.out.println(test + ": " + checks + " checks, " + wrong + " wrong");
        if (wrong != 0 || checks == 0) {
            System.exit(1);
        }
    }
}
