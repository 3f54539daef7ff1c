import java.io.IOException;
import java.lang.reflect.Constructor;
import java.lang.reflect.Field;
import java.lang.reflect.Method;
import java.lang.reflect.Modifier;
import java.nio.file.Files;
import java.nio.file.Path;
import java.util.Set;
import java.util.TreeSet;
import java.util.regex.Matcher;
import java.util.regex.Pattern;

/** The public face as the document prints it, and the rules of the language that a test can see. */
public final class FaceTest {
    private static final Check CHECK = new Check("FaceTest");
    private static final Set<String> FACE = Set.of(
            "int set(int, int, int)", "int thing(int, int, int)", "int told(int, int)", "int feed(int)", "int text()",
            "int force(int)", "int day(int, int)", "int when(int, int)", "int often(int, int)", "int year(int)",
            "long meet(int)", "long every(int)", "int why(int)", "long full(int)", "int shift(int)",
            "int join(int, int)", "int goodShift(int, int)", "int diary(int, int, int)", "long rounds(int, int)",
            "int film(int, int, int)", "int drawn(int)", "long chance(int, int, int)", "int image()", "int back()",
            "int count(int)", "int sheet(int, int, int)", "int cell(int, int, int)",
            "int copy(int, int, int, int, int)", "int things(int, int, int, int)", "int taken(int, int)");
    private static final Set<String> CONSTANTS = Set.of("int NONE = -1", "int BAD = -2", "int STATE = -3",
            "int FULL = -4", "long NO = -4611686018427387904");

    public static void main(String[] args) throws IOException, ReflectiveOperationException {
        theMethods();
        theConstants();
        theConstructor();
        theClassesInside();
        theSource();
        CHECK.end();
    }

    private static String face(Method method) {
        StringBuilder face = new StringBuilder(method.getReturnType() + " " + method.getName() + "(");
        for (Class<?> type : method.getParameterTypes()) {
            face.append(face.charAt(face.length() - 1) == '(' ? "" : ", ").append(type);
        }
        return face + ")";
    }

    private static void theMethods() {
        Set<String> found = new TreeSet<>();
        for (Method method : EveryNinth.class.getDeclaredMethods()) {
            if (Modifier.isPublic(method.getModifiers())) {
                found.add(face(method));
                CHECK.holds("not static: " + method, !Modifier.isStatic(method.getModifiers()));
            } else {
                CHECK.holds("private: " + method, Modifier.isPrivate(method.getModifiers()));
                CHECK.holds("no public name: " + method, !isPublicName(method.getName()));
            }
        }
        CHECK.holds("the methods are " + found, found.equals(FACE));
    }

    private static boolean isPublicName(String name) {
        for (String face : FACE) {
            if (face.contains(" " + name + "(")) {
                return true;
            }
        }
        return false;
    }

    private static void theConstants() throws ReflectiveOperationException {
        Set<String> found = new TreeSet<>();
        for (Field field : EveryNinth.class.getDeclaredFields()) {
            int modifiers = field.getModifiers();
            if (Modifier.isPublic(modifiers)) {
                CHECK.holds("a constant: " + field, Modifier.isStatic(modifiers) && Modifier.isFinal(modifiers));
                found.add(field.getType() + " " + field.getName() + " = " + field.get(null));
            } else {
                CHECK.holds("private: " + field, Modifier.isPrivate(modifiers));
                CHECK.holds("final if static: " + field, !Modifier.isStatic(modifiers) || Modifier.isFinal(modifiers));
            }
        }
        CHECK.holds("the constants are " + found, found.equals(CONSTANTS));
    }

    private static void theConstructor() {
        Constructor<?>[] all = EveryNinth.class.getDeclaredConstructors();
        CHECK.due("constructors", all.length, 1);
        CHECK.holds("public", Modifier.isPublic(all[0].getModifiers()));
        CHECK.due("its parameters", all[0].getParameterCount(), 0);
        CHECK.holds("the class is final", Modifier.isFinal(EveryNinth.class.getModifiers()));
    }

    private static void theClassesInside() {
        Class<?>[] inside = EveryNinth.class.getDeclaredClasses();
        CHECK.holds("at most twelve classes", inside.length + 1 <= 12);
        for (Class<?> one : inside) {
            int modifiers = one.getModifiers();
            CHECK.holds("private or package-visible, and static: " + one, Modifier.isStatic(modifiers)
                    && !Modifier.isPublic(modifiers) && !Modifier.isProtected(modifiers));
            for (Method method : one.getDeclaredMethods()) {
                CHECK.holds("private, so no public name: " + method,
                        !Modifier.isPrivate(method.getModifiers()) || !isPublicName(method.getName()));
                CHECK.holds("none of its own: " + method,
                        one.isRecord() || !Set.of("equals", "hashCode", "toString").contains(method.getName()));
                CHECK.holds("seven parameters: " + method, method.getParameterCount() <= 7);
            }
            int fields = 0;
            for (Field field : one.getDeclaredFields()) {
                fields += Modifier.isStatic(field.getModifiers()) ? 0 : 1;
            }
            CHECK.holds("some twenty fields: " + one, fields <= 20);
        }
    }

    private static void theSource() throws IOException {
        String source = Files.readString(Path.of("src/main/java/EveryNinth.java"));
        String bare = source.replaceAll("(?s)/\\*.*?\\*/", " ").replaceAll("//[^\n]*", " ")
                .replaceAll("\"[^\"\n]*\"", "\"\"").replaceAll("'[^'\n]+'", "' '");
        String[] banned = {
            "\\b(throw|throws|try|catch|finally|synchronized|assert|package|native|volatile|transient)\\b", "->", "::",
            "\\b(protected|abstract class|Object|System\\.(?!arraycopy)\\w+|Thread|Random|File|Class|Exception)\\b",
            "\"\"\\s*\\+|\\+\\s*\"\"", "\\w+Exact\\b"
        };
        for (String pattern : banned) {
            Matcher matcher = Pattern.compile(pattern).matcher(bare);
            CHECK.holds("not in the source: " + pattern, !matcher.find());
        }
        CHECK.holds("signs 1 to 127 alone", source.chars().allMatch(c -> c > 0 && c < 128));
        CHECK.holds("no unbounded loop", !Pattern.compile("while\\s*\\(true\\)|for\\s*\\(;;").matcher(bare).find());
    }
}
