import java.io.IOException;
import java.nio.file.Files;
import java.nio.file.Path;
import java.util.regex.Matcher;
import java.util.regex.Pattern;

/** The rules of LANGUAGE.md that a look at the words of the program can find broken, by their numbers. */
public final class LanguageTest {
    private static final Path PROGRAM = Path.of("src/main/java/LedgeLeaps.java");
    private static final String THROWN = "(IllegalStateException|IllegalArgumentException|IndexOutOfBoundsException"
        + "|ArithmeticException|UnsupportedOperationException|NoSuchElementException|RuntimeException)";

    public static void main(String[] args) throws IOException {
        String text = Files.readString(PROGRAM);
        String code = text.replaceAll("(?s)/\\*.*?\\*/", "").replaceAll("//[^\n]*", "")
            .replaceAll("\"[^\"\n]*\"", "\"\"");
        without(code, 0, "package");
        without(code, 2, "::", "->");
        without(code, 4, "Double", "Float", "Exact\\(", "Stream", "Optional", "Map", "Set", "Scanner", "String\\.format");
        without(code, 5, "static \\{");
        without(code, 6, "finally", "synchronized", "assert", "try \\(", "getMessage", "equals\\(Object", "hashCode",
            "NullPointerException", "ArrayIndexOutOfBoundsException", "ClassCastException", "NegativeArraySizeException",
            "ArrayStoreException", "Throwable", "Error", "\\(Exception");
        without(code, 13, "System\\.(?!arraycopy)", "Random", "Thread", "File", "Socket", "Path", "currentTime", "nanoTime");
        onlyThese(code, 4, "import [\\w.]+", "import java\\.util\\.(Arrays|ArrayList|List|Iterator|NoSuchElementException)");
        onlyThese(code, 6, "throw\\b[^s][^;]*", "throw new " + THROWN + "\\((\"\")?\\)");
        onlyThese(code, 6, "catch *\\([^)]*\\)", "catch \\(" + THROWN + " \\w+\\)");
        onlyThese(code, 1, "public [^;={]*class \\w+", "public final class LedgeLeaps");
        Check.end();
    }

    private static void without(String code, int rule, String... words) {
        for (String word : words) {
            String whole = Character.isLetter(word.charAt(0)) ? "\\b" + word : word;
            Check.holds("rule " + rule + ", that the program is without " + word,
                !Pattern.compile(whole + (word.matches("\\w+") ? "\\b" : "")).matcher(code).find());
        }
    }

    private static void onlyThese(String code, int rule, String found, String due) {
        Matcher matcher = Pattern.compile(found).matcher(code);
        while (matcher.find()) {
            Check.holds("rule " + rule + ", by which this may stand: " + matcher.group(), matcher.group().matches(due));
        }
    }
}
