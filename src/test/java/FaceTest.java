import java.lang.reflect.Constructor;
import java.lang.reflect.Field;
import java.lang.reflect.Method;
import java.lang.reflect.Modifier;
import java.nio.charset.StandardCharsets;
import java.nio.file.Files;
import java.nio.file.Path;
import java.util.ArrayList;
import java.util.Arrays;
import java.util.List;
import java.util.TreeSet;

/** Looks at the face of the class, and at those rules of LANGUAGE.md that a program can look at. */
public final class FaceTest {
    private static final String[] FACE = {
        "int addClass(int) IndexOutOfBoundsException IllegalStateException",
        "int addStep(int int char int int) IndexOutOfBoundsException IllegalArgumentException IllegalStateException",
        "int dropBody(int int) IndexOutOfBoundsException IllegalArgumentException",
        "int finds(int int) IndexOutOfBoundsException IllegalArgumentException",
        "int addPattern(char int int) IllegalArgumentException NoSuchElementException IllegalStateException",
        "int addAdvice(int char int int int) IllegalArgumentException NoSuchElementException IllegalStateException",
        "boolean turn(int boolean) NoSuchElementException",
        "boolean precede(int int boolean) IllegalArgumentException",
        "boolean isRing()",
        "int aspectAt(int) IllegalArgumentException IllegalStateException",
        "int places(int int) IndexOutOfBoundsException IllegalArgumentException",
        "char match(int int int int) IndexOutOfBoundsException IllegalArgumentException NoSuchElementException",
        "int residues()",
        "int woven()",
        "char run(int int int) IndexOutOfBoundsException IllegalArgumentException IllegalStateException",
        "char runAsking(int int int) IndexOutOfBoundsException IllegalArgumentException IllegalStateException",
        "int result() IllegalStateException",
        "int points()",
        "int asked()",
        "int traceLength()",
        "char traceKind(int) IndexOutOfBoundsException",
        "int traceValue(int) IndexOutOfBoundsException",
        "int traceAdvice(int) IndexOutOfBoundsException",
        "long traceSum()",
        "int acted(char) IllegalArgumentException",
        "float sureShare() ArithmeticException",
        "double meanSteps() ArithmeticException",
        "boolean isSound()",
    };
    private static final String[] BARRED = {
        "->", "::", "finally", "synchronized", "assert ", "try ", "catch", "Exact(", "static {", "Math.", "System.",
        "Object ", "toString", "hashCode", "\" +", "+ \"",
    };

    private static int wrong = 0;

    public static void main(String[] args) throws Exception {
        lookAtMembers();
        lookAtClassesInside();
        lookAtText(Files.readString(Path.of("src/main/java/Weaversgate.java"), StandardCharsets.UTF_8));
        System.out.println(wrong == 0 ? "the face is as due" : wrong + " faults");
        if (wrong != 0) {
            System.exit(1);
        }
    }

    private static void must(boolean isSo, String what) {
        if (!isSo) {
            wrong++;
            System.out.println(what);
        }
    }

    private static void lookAtMembers() {
        Class<?> face = Weaversgate.class;
        must(Modifier.isPublic(face.getModifiers()) && Modifier.isFinal(face.getModifiers()), "public and final");
        TreeSet<String> open = new TreeSet<>();
        TreeSet<String> closed = new TreeSet<>();
        for (Method method : face.getDeclaredMethods()) {
            if (Modifier.isPrivate(method.getModifiers())) {
                closed.add(method.getName());
            } else {
                must(Modifier.isPublic(method.getModifiers()), "not public: " + method);
                open.add(described(method));
            }
        }
        must(open.equals(new TreeSet<>(Arrays.asList(FACE))), "the face is " + open);
        for (String line : FACE) {
            must(!closed.contains(line.substring(line.indexOf(' ') + 1, line.indexOf('('))), "private too: " + line);
        }
        for (Constructor<?> constructor : face.getDeclaredConstructors()) {
            must(Modifier.isPublic(constructor.getModifiers()) && constructor.getParameterCount() == 0, "" + constructor);
        }
        for (Field field : face.getDeclaredFields()) {
            must(Modifier.isPrivate(field.getModifiers()), "not private: " + field);
        }
    }

    private static String described(Method method) {
        List<String> parameters = new ArrayList<>();
        for (Class<?> type : method.getParameterTypes()) {
            parameters.add(type.getSimpleName());
        }
        StringBuilder line = new StringBuilder(method.getReturnType().getSimpleName() + " " + method.getName());
        line.append('(').append(String.join(" ", parameters)).append(')');
        for (Class<?> type : method.getExceptionTypes()) {
            line.append(' ').append(type.getSimpleName());
        }
        return line.toString();
    }

    private static void lookAtClassesInside() {
        List<Class<?>> all = new ArrayList<>(List.of(Weaversgate.class.getDeclaredClasses()));
        must(all.size() <= 11, "too many classes inside: " + all.size());
        for (Class<?> inside : all) {
            must(Modifier.isStatic(inside.getModifiers()), "not static: " + inside);
            must(!Modifier.isPublic(inside.getModifiers()), "public: " + inside);
        }
        all.add(Weaversgate.class);
        for (Class<?> one : all) {
            int fields = 0;
            for (Field field : one.getDeclaredFields()) {
                boolean isStatic = Modifier.isStatic(field.getModifiers());
                must(!isStatic || Modifier.isFinal(field.getModifiers()), "static and not final: " + field);
                fields += isStatic ? 0 : 1;
            }
            must(fields <= 20, "too many fields: " + one);
            for (Method method : one.getDeclaredMethods()) {
                must(method.getParameterCount() <= 7, "too many parameters: " + method);
            }
        }
    }

    private static void lookAtText(String text) {
        for (String line : text.split("\n")) {
            String code = line.replaceAll("^\\s*(//|/\\*\\*|\\*).*", "").replaceAll("/\\*.*?\\*/", "");
            for (String barred : BARRED) {
                must(!code.contains(barred), "barred, " + barred + ": " + line);
            }
            must(line.chars().allMatch(c -> c >= 32 && c < 127), "a sign beyond 126: " + line);
            must(!code.startsWith("import") || code.equals("import java.util.NoSuchElementException;"), line);
            must(!code.startsWith("package"), line);
        }
    }
}
