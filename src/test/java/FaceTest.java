import java.lang.reflect.Constructor;
import java.lang.reflect.Field;
import java.lang.reflect.Member;
import java.lang.reflect.Method;
import java.lang.reflect.Modifier;
import java.util.Set;
import java.util.TreeSet;

/** The public face, and rule 1 of LANGUAGE.md: nothing else is to be seen. */
public final class FaceTest {
    private static final String I = " IndexOutOfBoundsException";
    private static final String A = " IllegalArgumentException";
    private static final String S = " IllegalStateException";
    private static final String[] METHODS = {
        "int build(int int)" + I, "int set(int int)" + I + A, "int walk(int)" + A, "int leap(int int)" + A,
        "int put(int int)" + I, "int append(int)" + A + S, "int clearBuffer()", "int firstError()", "int run()" + A,
        "int keep(int)" + A, "int goBack(int)" + A + S, "int undo()" + S, "int cellOf(int int int)" + I + A,
        "int ledgeOf(int int)" + I + A, "int count(int)" + A, "int setting(int)" + I, "int arc(int int)" + A,
        "int ifLeapt(int int int int int)" + I + A, "int slowest(int int)" + I, "int fewest(int int int int)" + I + A,
        "int onlyRunning(int)" + A, "double reachShare()", "long digest()"};

    public static void main(String[] args) throws ReflectiveOperationException {
        Class<?> face = LedgeLeaps.class;
        Check.due("modifiers of the class", face.getModifiers(), Modifier.PUBLIC | Modifier.FINAL);
        Set<String> names = new TreeSet<>();
        Set<String> told = new TreeSet<>();
        for (Method method : face.getDeclaredMethods()) {
            if (isSeen(method)) {
                names.add(method.getName());
                told.add(written(method));
            }
        }
        Check.dueText("the public methods", told.toString(), new TreeSet<>(Set.of(METHODS)).toString());
        for (Method method : face.getDeclaredMethods()) {
            if (!isSeen(method) && names.contains(method.getName())) {
                Check.dueText("a private method", method.getName(), "of another name");
            }
        }
        for (Field field : face.getDeclaredFields()) {
            if (isSeen(field)) {
                Check.dueText("a field that is seen", field.toString(), "public static final int LedgeLeaps.NONE");
            }
            if (Modifier.isStatic(field.getModifiers()) && !Modifier.isFinal(field.getModifiers())) {
                Check.dueText("static state", field.getName(), "none");
            }
        }
        Check.due("NONE", face.getField("NONE").getInt(null), -1);
        Constructor<?>[] made = face.getDeclaredConstructors();
        Check.due("constructors", made.length, 1);
        Check.dueText("the constructor", made[0].toString(), "public LedgeLeaps()");
        for (Class<?> inside : face.getDeclaredClasses()) {
            Check.due(inside.getName() + " public or protected",
                inside.getModifiers() & (Modifier.PUBLIC | Modifier.PROTECTED), 0);
        }
        Check.end();
    }

    private static boolean isSeen(Member member) {
        return !Modifier.isPrivate(member.getModifiers()) && !member.isSynthetic();
    }

    private static String written(Method method) {
        StringBuilder text = new StringBuilder(method.getReturnType() + " " + method.getName() + "(");
        for (Class<?> type : method.getParameterTypes()) {
            text.append(text.charAt(text.length() - 1) == '(' ? "" : " ").append(type);
        }
        text.append(')');
        for (Class<?> type : method.getExceptionTypes()) {
            text.append(' ').append(type.getSimpleName());
        }
        return text.toString();
    }
}
