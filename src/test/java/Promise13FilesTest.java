/** Promise 13: files. */
public final class Promise13FilesTest {

    public static void main(String[] args) {
        Buddyfield volume = new Buddyfield();
        for (int name = 0; name < 16; name++) {
            Due.same("files", volume.files(), name);
            volume.create(name);
        }
        Due.same("all", volume.files(), 16);
        volume.delete(3);
        Due.same("one deleted", volume.files(), 15);
        volume.open(4);
        volume.delete(4);
        Due.same("one to be deleted", volume.files(), 15);
        volume.close(4);
        Due.same("that is closed", volume.files(), 14);
        volume.crash();
        Due.same("while down", volume.files(), 14);
        Due.end("promise 13");
    }
}
