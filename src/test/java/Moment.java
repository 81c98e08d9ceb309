/**
 * One state of a volume, as it is between two calls: what each question answers there, and what each
 * call does there. Each is a test of its own on a volume made anew, so that none of them touches another.
 */
final class Moment {

    interface Call {
        Object on(Buddyfield volume);
    }

    private final Edges edges;
    private final String when;
    private final Refusal.Making making;

    Moment(Edges edges, String when, Refusal.Making making) {
        this.edges = edges;
        this.when = when;
        this.making = making;
    }

    Moment answers(String call, Object due, Call asked) {
        edges.test(when + ", " + call + " answers " + due,
                () -> Due.same(call, asked.on(making.make()), due));
        return this;
    }

    /** A call and a question behind it, whose answers stand in one text. */
    Moment leaves(String calls, String due, Call asked) {
        edges.test(when + ", " + calls + ": " + due, () -> Due.same(calls, asked.on(making.make()), due));
        return this;
    }

    Moment noFile(String call, Refusal.CallOn refused) {
        edges.outOfBounds(when + ", " + call, making, refused);
        return this;
    }

    Moment refuses(String call, Refusal.CallOn refused) {
        edges.badState(when + ", " + call, making, refused);
        return this;
    }

    /** Each call that changes something but start() is refused while the volume is down, for this file and name. */
    Moment refusesAllWhileDown(int file, int name, int newName) {
        return refuses("create(" + newName + ")", volume -> volume.create(newName))
                .refuses("open(" + name + ")", volume -> volume.open(name))
                .refuses("close(" + file + ")", volume -> volume.close(file))
                .refuses("delete(" + name + ")", volume -> volume.delete(name))
                .refuses("write(" + file + ", 0, 1)", volume -> volume.write(file, 0, 1))
                .refuses("flush(" + file + ")", volume -> volume.flush(file))
                .refuses("cut(" + file + ", 0)", volume -> volume.cut(file, 0))
                .refuses("crashBehind(1)", volume -> volume.crashBehind(1))
                .refuses("crash()", Buddyfield::crash);
    }

    /** What pieces answers for each length in a group, as one text. */
    Moment pieces(int group, String due) {
        edges.test(when + ", pieces of group " + group + " are " + due,
                () -> Due.same("pieces", piecesOf(making.make(), group), due));
        return this;
    }

    private static String piecesOf(Buddyfield volume, int group) {
        StringBuilder text = new StringBuilder();
        for (int order = 0; order < 6; order++) {
            text.append(order == 0 ? "" : " ").append(volume.pieces(group, order));
        }
        return text.toString();
    }
}
