import java.io.IOException;
import java.nio.file.Files;
import java.nio.file.Path;
import java.util.ArrayList;
import java.util.List;

/** The sentences of the document down to its last promise, and which of them a test has quoted. */
final class Document {

    /** The numbers of the Terms and of what stands ahead of them, beside the numbers of the promises. */
    static final int TERMS = 0;
    static final int AHEAD = -2;
    static final int NOWHERE = -1;

    private static final class Sentence {
        private final int section;
        private final String text;
        private boolean isQuoted = false;

        private Sentence(int section, String text) {
            this.section = section;
            this.text = text;
        }
    }

    private final List<Sentence> sentences = new ArrayList<>();
    private final StringBuilder paragraph = new StringBuilder();
    private int section = NOWHERE;

    Document(String path) throws IOException {
        for (String line : Files.readAllLines(Path.of(path))) {
            read(line);
        }
        endParagraph();
    }

    private void read(String line) {
        if (line.isBlank() || line.startsWith("#") || line.startsWith("- ") || line.startsWith("```")) {
            endParagraph();
        }
        if (line.startsWith("## ")) {
            section = sectionNamed(line);
        } else if (!line.startsWith("#") && !line.startsWith("```")) {
            paragraph.append(' ').append(line);
            // Each line of the public face says something of its own.
            if (line.endsWith(";") || line.endsWith("{")) {
                endParagraph();
            }
        }
    }

    private static int sectionNamed(String heading) {
        if (heading.equals("## Terms")) {
            return TERMS;
        }
        if (heading.equals("## What it is") || heading.equals("## The public face")) {
            return AHEAD;
        }
        if (heading.startsWith("## Promise ")) {
            return Integer.parseInt(heading.substring("## Promise ".length(), heading.indexOf(':')));
        }
        return NOWHERE;
    }

    private void endParagraph() {
        for (String text : plain(paragraph.toString()).split("(?<=\\.) (?=[A-Z])")) {
            // The document has headings of one word that stand in the text itself.
            if (section != NOWHERE && text.indexOf(' ') > 0) {
                sentences.add(new Sentence(section, text));
            }
        }
        paragraph.setLength(0);
    }

    private static String plain(String text) {
        return text.replace("`", "").replaceAll("\\s+", " ").trim();
    }

    /** Answers where the words stand: under the promise (or ahead of the Terms), else in the Terms, else nowhere. */
    int quote(int promise, String words) {
        for (int place : new int[] {promise, TERMS}) {
            for (Sentence sentence : sentences) {
                if (sentence.section == place && sentence.text.contains(plain(words))) {
                    sentence.isQuoted = true;
                    return place;
                }
            }
        }
        return NOWHERE;
    }

    int count() {
        return sentences.size();
    }

    List<String> notQuoted() {
        List<String> found = new ArrayList<>();
        for (Sentence sentence : sentences) {
            if (!sentence.isQuoted) {
                found.add("section " + sentence.section + ": " + sentence.text);
            }
        }
        return found;
    }
}
