import java.lang.reflect.Method;

/**
 * Runs all boundary cases: its arguments are the document's path and the names of the classes that
 * hold them. At the end each sentence of the document's Terms and promises must have been quoted.
 */
public final class EdgesMain {

    private EdgesMain() {
    }

    public static void main(String[] args) throws Exception {
        Document document = new Document(args[0]);
        Edges edges = new Edges(document);
        for (int i = 1; i < args.length; i++) {
            Method tests = Class.forName(args[i]).getDeclaredMethod("tests", Edges.class);
            tests.invoke(null, edges);
        }
        edges.promise(Document.TERMS).on("There are the blocks 0 to 127")
                .test("this sentence and each other one has a test", () -> everySentenceHasATest(document));
        System.out.println("boundary cases: " + (edges.passed() + edges.failed()) + " ran, "
                + edges.failed() + " of them failed");
        if (edges.failed() != 0) {
            System.exit(1);
        }
    }

    private static void everySentenceHasATest(Document document) {
        Due.same("enough sentences were read", document.count() > 100, true);
        for (String sentence : document.notQuoted()) {
            Due.same("a test for " + sentence, false, true);
        }
    }
}
