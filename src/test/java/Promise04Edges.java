/** Promise 4, and what comes with the last close of a file that is to be deleted. */
final class Promise04Edges {

    private Promise04Edges() {
    }

    static void tests(Edges edges) {
        edges.promise(4);
        edges.on("Closes a file once.")
                .test("one that is not to be deleted stays as it is", Promise04Edges::lastCloseChangesNoMore)
                .test("the other files stay open", Promise04Edges::othersStayOpen);
        edges.on("`file`: a file")
                .test("file 0 is taken", () -> Due.same("close", openedFull(0).close(0), 0))
                .test("file 15 is taken", () -> Due.same("close", openedFull(15).close(15), 0));
        edges.on("Throws `IndexOutOfBoundsException` if there is no such file").noSuchFile(Buddyfield::close)
                .outOfBounds("a file that the last close has deleted", Promise04Edges::closedForGood,
                        volume -> volume.close(0));
        edges.on("Returns how often it is open then")
                .test("1, then 0", Promise04Edges::countsDown)
                .test("0 with the last close of a deleted file", Promise04Edges::lastCloseOfADeletedFile);
        edges.on("NONE if a crash has come.")
                .test("in the midst of the steps", () -> closeWithCrash(1, 124))
                .test("behind the last step", () -> closeWithCrash(2, 128))
                .test("not if it was told for one step more", Promise04Edges::crashToldForOneStepMore)
                .test("not if there is no step", Promise04Edges::noStepNoCrash);
        edges.on("Throws `IllegalStateException` if it is not open")
                .badState("never opened", Volumes::busy, volume -> volume.close(0))
                .badState("closed as often as opened", Promise04Edges::closedAgain, volume -> volume.close(0))
                .badState("opened, but a crash and a start came", Promise04Edges::crashedAndStarted,
                        volume -> volume.close(0));
        edges.on("if the volume is down, for all methods that are named as those that change something")
                .badState("down", Volumes::down, volume -> volume.close(1));
        edges.on("If several apply, the one that is named first in the throws clause is thrown.")
                .noSuchFileWhileDown(Buddyfield::close);
        edges.on("If it is not open, or as soon as it is closed for the last time, it is cut to 0, "
                + "and there is no such file any more")
                .test("the last close but one does nothing", Promise04Edges::lastCloseButOne)
                .test("with the last one all its blocks are free", Promise04Edges::allBlocksAreFree)
                .test("a file without blocks goes too", Promise04Edges::emptyFileGoes)
                .test("its number is given anew", Promise04Edges::numberIsGivenAnew);
    }

    private static Buddyfield openedFull(int file) {
        Buddyfield volume = Volumes.full();
        volume.open(16 * file);
        return volume;
    }

    /** File 0 with 8 places, so two steps, open once, and deleted. */
    private static Buddyfield doomed() {
        Buddyfield volume = Due.withFiles(2);
        volume.open(0);
        Due.writeAndFlush(volume, 0, 0, 8);
        volume.delete(0);
        return volume;
    }

    private static Buddyfield closedForGood() {
        Buddyfield volume = doomed();
        volume.close(0);
        return volume;
    }

    private static Buddyfield closedAgain() {
        Buddyfield volume = Due.withFiles(2);
        volume.open(0);
        volume.open(0);
        volume.close(0);
        volume.close(0);
        volume.open(1);
        return volume;
    }

    private static Buddyfield crashedAndStarted() {
        Buddyfield volume = Due.withFiles(2);
        volume.open(0);
        volume.crash();
        volume.start();
        return volume;
    }

    private static void lastCloseChangesNoMore() {
        Buddyfield volume = Due.withFiles(2);
        Due.writeAndFlush(volume, 0, 0, 5);
        volume.write(0, 20, 3);
        String before = Due.stateOf(volume);
        volume.open(0);
        volume.close(0);
        Due.same("state", Due.stateOf(volume), before);
        Due.same("the kept blocks are still for place 5", Due.writeAndFlush(volume, 0, 5, 1), 4);
        Due.same("place 5", volume.blockAt(0, 5), 5);
    }

    private static void othersStayOpen() {
        Buddyfield volume = Due.withFiles(3);
        for (int name = 0; name < 3; name++) {
            volume.open(name);
        }
        volume.close(1);
        Due.same("the one ahead", volume.opens(0), 1);
        Due.same("this one", volume.opens(1), 0);
        Due.same("the one behind", volume.opens(2), 1);
    }

    private static void countsDown() {
        Buddyfield volume = Due.withFiles(1);
        volume.open(0);
        volume.open(0);
        Due.same("close", volume.close(0), 1);
        Due.same("close", volume.close(0), 0);
        Due.same("opens", volume.opens(0), 0);
    }

    private static void lastCloseOfADeletedFile() {
        Due.same("close", doomed().close(0), 0);
    }

    private static void closeWithCrash(int step, int free) {
        Buddyfield volume = doomed();
        volume.crashBehind(step);
        Due.same("close", volume.close(0), Buddyfield.NONE);
        Due.same("isDown", volume.isDown(), true);
        Due.same("free", volume.free(), free);
        Due.same("the file is still there", volume.opens(0), 0);
        Due.same("files", volume.files(), 2);
        Due.same("listed", volume.listed(), 1);
        Due.same("start", volume.start(), 1);
        Due.same("files", volume.files(), 1);
        Due.same("free", volume.free(), 128);
    }

    private static void crashToldForOneStepMore() {
        Buddyfield volume = doomed();
        volume.crashBehind(3);
        Due.same("close", volume.close(0), 0);
        Due.same("isDown", volume.isDown(), false);
        Due.same("files", volume.files(), 1);
        Due.same("listed", volume.listed(), 0);
    }

    private static void noStepNoCrash() {
        Buddyfield volume = Due.withFiles(1);
        volume.open(0);
        volume.write(0, 0, 5);
        volume.delete(0);
        volume.crashBehind(1);
        Due.same("close", volume.close(0), 0);
        Due.same("isDown", volume.isDown(), false);
        Due.same("files", volume.files(), 0);
    }

    private static void lastCloseButOne() {
        Buddyfield volume = Due.withFiles(2);
        volume.open(0);
        volume.open(0);
        Due.writeAndFlush(volume, 0, 0, 5);
        volume.write(0, 20, 3);
        volume.delete(0);
        Due.same("close", volume.close(0), 1);
        Due.same("files", volume.files(), 2);
        Due.same("listed", volume.listed(), 1);
        Due.same("mapped", volume.extent(0, 0), 500);
        Due.same("reserved", volume.reserved(), 3);
        Due.same("kept", volume.kept(), 3);
    }

    private static void allBlocksAreFree() {
        Buddyfield volume = Due.withFiles(2);
        volume.open(0);
        Due.writeAndFlush(volume, 0, 0, 5);
        volume.write(0, 20, 3);
        volume.delete(0);
        Due.same("close", volume.close(0), 0);
        Due.same("free", volume.free(), 128);
        Due.same("freeByFiles", volume.freeByFiles(), 128);
        Due.same("reserved", volume.reserved(), 0);
        Due.same("kept", volume.kept(), 0);
        Due.same("listed", volume.listed(), 0);
        Due.outOfBounds(volume, "no such file", () -> volume.opens(0));
    }

    private static void emptyFileGoes() {
        Buddyfield volume = Due.withFiles(1);
        volume.open(0);
        volume.delete(0);
        Due.same("close", volume.close(0), 0);
        Due.same("files", volume.files(), 0);
        Due.same("listed", volume.listed(), 0);
    }

    private static void numberIsGivenAnew() {
        Buddyfield volume = closedForGood();
        Due.same("create", volume.create(77), 0);
        Due.same("opens", volume.opens(0), 0);
        volume.open(77);
        Due.same("close", volume.close(0), 0);
        Due.same("the new file is not to be deleted", volume.files(), 2);
    }
}
