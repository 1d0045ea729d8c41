import java.io.IOException;
import java.nio.file.Files;
import java.nio.file.Path;
import java.util.LinkedHashMap;
import java.util.Map;
import java.util.Set;

/** The document by its sections, and which of its words no test quotes. */
final class Document {
    private static final Path FILE = Path.of("../shared/DOC.md");
    /** What FaceTest holds, and what wants no test. */
    private static final Set<String> WITHOUT = Set.of("LedgeLeaps", "The public face", "Not promised");
    /** This one bears no heading's sign in the document. */
    private static final String PLAIN_HEADING = "Snapshots, undo";

    private final Map<String, StringBuilder> sections = new LinkedHashMap<>();

    private Document(String text) {
        String heading = "";
        for (String line : text.split("\n")) {
            if (line.startsWith("#") || line.equals(PLAIN_HEADING)) {
                heading = line.replaceFirst("^#+ *", "");
                sections.put(heading, new StringBuilder());
            } else if (sections.containsKey(heading)) {
                sections.get(heading).append(withoutSignature(line)).append(' ');
            }
        }
    }

    private static String withoutSignature(String line) {
        return line.replaceFirst("^`[^`]*\\)[^`]*`: ", "");
    }

    private static String plain(String text) {
        return text.replaceAll("\\s+", " ").trim();
    }

    static void compare(Sentences sentences) throws IOException {
        if (!Files.exists(FILE)) {
            System.out.println("no " + FILE + ": the sentences are not compared with it");
            return;
        }
        Document document = new Document(Files.readString(FILE));
        for (String heading : document.sections.keySet()) {
            if (!WITHOUT.contains(heading)) {
                document.compareSection(heading, sentences);
            }
        }
        for (Sentences.Sentence sentence : sentences.all) {
            Check.holds("that the document has a section " + sentence.section(),
                document.sections.containsKey(sentence.section()));
        }
    }

    private void compareSection(String heading, Sentences sentences) {
        String text = plain(sections.get(heading).toString());
        boolean[] quoted = new boolean[text.length()];
        for (Sentences.Sentence sentence : sentences.all) {
            if (sentence.section().equals(heading)) {
                int begun = text.indexOf(plain(sentence.text()));
                Check.holds("that " + heading + " says: " + sentence.text(), begun >= 0);
                for (int i = Math.max(begun, 0); i < begun + plain(sentence.text()).length(); i++) {
                    quoted[i] = true;
                }
            }
        }
        StringBuilder rest = new StringBuilder();
        for (int i = 0; i < quoted.length; i++) {
            rest.append(quoted[i] ? ' ' : text.charAt(i));
        }
        if (rest.toString().matches(".*[A-Za-z0-9].*")) {
            Check.wrong(heading + ": no test quotes: " + plain(rest.toString()));
        }
    }
}
