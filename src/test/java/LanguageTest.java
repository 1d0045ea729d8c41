import java.io.IOException;
import java.nio.file.Files;
import java.nio.file.Path;

/** The rules of LANGUAGE.md that a look at the words of the file can find broken. */
public final class LanguageTest {
    private static final String[] FORBIDDEN = {"->", "::", "catch", "try ", "finally", "synchronized", "assert ",
        "Exact(", "Double", "Float", "Random", "System.out", "System.nano", "System.current", "Thread", "instanceof",
        "package ", "protected", "native", "volatile", "transient", "static {", "NaN", "Object", " var "};

    public static void main(String[] args) throws IOException {
        String text = Files.readString(Path.of("src/main/java/LedgeLeaps.java"));
        String code = text.replaceAll("(?s)/\\*.*?\\*/", "").replaceAll("//[^\n]*", "");
        for (String word : FORBIDDEN) {
            Check.due("place of " + word + " in the code", code.indexOf(word), -1);
        }
        for (String line : code.split("\n")) {
            if (line.startsWith("import")) {
                Check.dueText("an import", line, "import java.util.Arrays;");
            }
            if (line.contains("throw new")) {
                Check.due("a place for a throw: " + line.trim(), line.startsWith("            throw") ? 1 : 0, 1);
            }
        }
        Check.end();
    }
}
