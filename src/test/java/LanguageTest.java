import java.io.IOException;
import java.lang.reflect.Executable;
import java.lang.reflect.Field;
import java.lang.reflect.Method;
import java.lang.reflect.Modifier;
import java.nio.file.Files;
import java.nio.file.Path;
import java.util.ArrayList;
import java.util.HashSet;
import java.util.List;
import java.util.Set;
import java.util.regex.Matcher;
import java.util.regex.Pattern;

/** The rules of LANGUAGE.md that a look at the words of the program, or at its classes, can find broken, by their numbers. */
public final class LanguageTest {
    private static final Path PROGRAM = Path.of("src/main/java/LedgeLeaps.java");
    private static final String THROWN = "(IllegalStateException|IllegalArgumentException|IndexOutOfBoundsException"
        + "|ArithmeticException|UnsupportedOperationException|NoSuchElementException|RuntimeException)";

    public static void main(String[] args) throws IOException {
        String text = Files.readString(PROGRAM);
        String code = text.replaceAll("(?s)/\\*.*?\\*/", "").replaceAll("//[^\n]*", "")
            .replaceAll("\"[^\"\n]*\"", "\"\"");
        without(code, 0, "package");
        without(code, 2, "::", "->");
        without(code, 4, "Double", "Float", "Exact\\(", "Stream", "Optional", "Map", "Set", "Scanner", "String\\.format");
        without(code, 5, "static \\{");
        without(code, 6, "finally", "synchronized", "assert", "try \\(", "getMessage", "equals\\(Object", "hashCode",
            "NullPointerException", "ArrayIndexOutOfBoundsException", "ClassCastException", "NegativeArraySizeException",
            "ArrayStoreException", "Throwable", "Error", "\\(Exception");
        without(code, 13, "System\\.(?!arraycopy)", "Random", "Thread", "File", "Socket", "Path", "currentTime", "nanoTime");
        onlyThese(code, 4, "import [\\w.]+", "import java\\.util\\.(Arrays|ArrayList|List|Iterator|NoSuchElementException)");
        onlyThese(code, 6, "throw\\b[^s][^;]*", "throw new " + THROWN + "\\((\"\")?\\)");
        onlyThese(code, 6, "catch *\\([^)]*\\)", "catch \\(" + THROWN + " \\w+\\)");
        onlyThese(code, 1, "public [^;={]*class \\w+", "public final class LedgeLeaps");
        Check.holds("rule 3, that texts hold the signs 1 to 127", text.chars().allMatch(sign -> sign >= 1 && sign <= 127));
        methodsAreShort(code);
        classesAreOfTheirShape();
        Check.end();
    }

    /** By the indentation: a method of the class, or of one inside it, ends with the brace below its first line. */
    private static void methodsAreShort(String code) {
        Matcher method = Pattern.compile("(?ms)^( {4}| {8})(?=\\w)([^;={}]*\\([^;={}]*\\{)\\n.*?^\\1\\}$").matcher(code);
        int methods = 0;
        while (method.find()) {
            methods++;
            long lines = method.group().lines().count();
            Check.holds("rule 11, that this has at most 60 lines: " + method.group(2), lines <= 60);
        }
        Check.holds("that the methods are found", methods >= LedgeLeaps.class.getDeclaredMethods().length);
    }

    private static void classesAreOfTheirShape() {
        List<Class<?>> all = new ArrayList<>(List.of(LedgeLeaps.class));
        for (int i = 0; i < all.size(); i++) {
            all.addAll(List.of(all.get(i).getDeclaredClasses()));
        }
        Check.holds("rule 11, that there are at most 12 classes", all.size() <= 12);
        Set<String> face = new HashSet<>();
        for (Method method : LedgeLeaps.class.getDeclaredMethods()) {
            if (Modifier.isPublic(method.getModifiers())) {
                face.add(method.getName());
            }
        }
        for (Class<?> one : all) {
            Check.holds("rule 1, that " + one + " is static", one == LedgeLeaps.class || Modifier.isStatic(one.getModifiers()));
            fieldsAreOfTheirShape(one);
            methodsAreOfTheirShape(one, face);
        }
    }

    private static void fieldsAreOfTheirShape(Class<?> one) {
        int fields = 0;
        for (Field field : one.getDeclaredFields()) {
            String type = field.getType().getSimpleName();
            if (Modifier.isStatic(field.getModifiers())) {
                Check.holds("rule 5, that this is final: " + field, Modifier.isFinal(field.getModifiers()));
                Check.holds("rule 5, by which this may be: " + field,
                    type.matches("(int|long|char)(\\[\\])?|byte\\[\\]|boolean|String"));
            } else {
                fields++;
            }
            Check.holds("rule 3, by which this may be: " + field, !type.contains("[][][]")
                && (!type.contains("[][]") || type.matches("(int|long|short|byte|char|double|float)\\[\\]\\[\\]")));
        }
        Check.holds("rule 11, that " + one + " has at most 20 fields", fields <= 20);
    }

    private static void methodsAreOfTheirShape(Class<?> one, Set<String> face) {
        List<Executable> all = new ArrayList<>(List.of(one.getDeclaredMethods()));
        all.addAll(List.of(one.getDeclaredConstructors()));
        for (Executable made : all) {
            Check.holds("rule 11, that this takes at most 7 parameters: " + made, made.getParameterCount() <= 7);
            Check.holds("rule 1, that this is not named as one of the face: " + made,
                Modifier.isPublic(made.getModifiers()) || !face.contains(made.getName()));
        }
    }

    private static void without(String code, int rule, String... words) {
        for (String word : words) {
            String whole = Character.isLetter(word.charAt(0)) ? "\\b" + word : word;
            Check.holds("rule " + rule + ", that the program is without " + word,
                !Pattern.compile(whole + (word.matches("\\w+") ? "\\b" : "")).matcher(code).find());
        }
    }

    private static void onlyThese(String code, int rule, String found, String due) {
        Matcher matcher = Pattern.compile(found).matcher(code);
        while (matcher.find()) {
            Check.holds("rule " + rule + ", by which this may stand: " + matcher.group(), matcher.group().matches(due));
        }
    }
}
