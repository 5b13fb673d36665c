import java.io.IOException;
import java.lang.reflect.Constructor;
import java.lang.reflect.Field;
import java.lang.reflect.Method;
import java.lang.reflect.Modifier;
import java.nio.file.Files;
import java.nio.file.Path;
import java.util.Arrays;
import java.util.List;
import java.util.TreeSet;
import java.util.regex.Pattern;

/** The face of the class, and those rules of LANGUAGE.md that its text shows. The argument is its file. */
public final class LanguageTest {
    private static final String I = "IndexOutOfBoundsException";
    private static final String A = "IllegalArgumentException";
    private static final String S = "IllegalStateException";
    private static final String[] FACE = {
        "int insert(int int int int int) " + A + " " + S + " " + I,
        "int removeWord(int) " + I,
        "int endParagraph(int boolean) " + I,
        "int setSigns(int int int) " + A + " " + I,
        "int set(int int) " + A,
        "int setShare(int int) " + A + " " + I,
        "int word(int int) " + A + " " + I,
        "int line(int int) " + A + " " + I,
        "int page(int int) " + A + " " + I,
        "int whole(int) " + A,
        "int share(int) " + I,
        "int unevenness() ",
        "double meanEmpty() ",
        "int linesWith(int) " + A,
        "int measureFor(int) " + A,
        "int linesUnlent() ",
        "int evenest(int) " + A,
        "int type(int) " + A + " " + S,
        "int clearText() ",
        "int readWords() ",
        "int lineByte(int int) " + A + " " + I,
        "int undo() " + S,
        "long digest() "
    };
    private static final String[] FORBIDDEN = {
        "->", "::", "\\bimport\\b", "\\bpackage\\b", "\\bfinally\\b", "\\bassert\\b", "\\bsynchronized\\b",
        "\\bcatch\\b", "\\bfloat\\b", "\\.equals\\(", "hashCode", "toString", "\\+ *\"", "\" *\\+", "Exact\\(",
        "\\bSystem\\.(?!arraycopy)", "\\bThread\\b", "\\bRandom\\b", "\\bvar\\b", "static \\{", "protected "
    };

    private static final Check CHECK = new Check();

    public static void main(String[] args) throws IOException {
        face();
        fields();
        source(Files.readAllLines(Path.of(args[0])));
        CHECK.finish();
    }

    private static void face() {
        TreeSet<String> got = new TreeSet<>();
        TreeSet<String> publicNames = new TreeSet<>();
        for (Method method : LentMargins.class.getDeclaredMethods()) {
            if (Modifier.isPublic(method.getModifiers())) {
                publicNames.add(method.getName());
                got.add(method.getReturnType() + " " + method.getName() + "(" + names(method.getParameterTypes())
                    + ") " + names(method.getExceptionTypes()));
                CHECK.holds(method + " belongs to objects", !Modifier.isStatic(method.getModifiers()));
            } else {
                CHECK.holds(method + " is private", Modifier.isPrivate(method.getModifiers()));
            }
        }
        CHECK.holds("the methods are " + got + " and that", got.equals(new TreeSet<>(List.of(FACE))));
        noNameTwice(publicNames);
        Constructor<?>[] constructors = LentMargins.class.getDeclaredConstructors();
        CHECK.same("constructors", 1, constructors.length);
        CHECK.same("its arguments", 0, constructors[0].getParameterCount());
        CHECK.holds("it is public", Modifier.isPublic(constructors[0].getModifiers()));
        CHECK.holds("the class is final", Modifier.isFinal(LentMargins.class.getModifiers()));
    }

    private static void noNameTwice(TreeSet<String> publicNames) {
        for (Class<?> inside : LentMargins.class.getDeclaredClasses()) {
            CHECK.holds(inside + " is static", Modifier.isStatic(inside.getModifiers()));
            CHECK.holds(inside + " has at most 20 fields", countOfOwn(inside) <= 20);
            for (Method method : inside.getDeclaredMethods()) {
                CHECK.holds(method + " has a name of its own", !publicNames.contains(method.getName()));
            }
        }
        for (Method method : LentMargins.class.getDeclaredMethods()) {
            boolean isPublic = Modifier.isPublic(method.getModifiers());
            CHECK.holds(method + " has a name of its own", isPublic || !publicNames.contains(method.getName()));
            CHECK.holds(method + " takes at most seven", method.getParameterCount() <= 7);
        }
    }

    private static long countOfOwn(Class<?> type) {
        return Arrays.stream(type.getDeclaredFields()).filter(f -> !Modifier.isStatic(f.getModifiers())).count();
    }

    private static String names(Class<?>[] types) {
        TreeSet<String> sorted = new TreeSet<>();
        StringBuilder inOrder = new StringBuilder();
        for (Class<?> type : types) {
            sorted.add(type.getSimpleName());
            inOrder.append(inOrder.length() == 0 ? "" : " ").append(type.getSimpleName());
        }
        boolean exceptions = types.length > 0 && Throwable.class.isAssignableFrom(types[0]);
        return exceptions ? String.join(" ", sorted) : inOrder.toString();
    }

    private static void fields() {
        for (Field field : LentMargins.class.getDeclaredFields()) {
            boolean constant = field.getName().equals("NONE");
            CHECK.holds(field + " is private or NONE", constant || Modifier.isPrivate(field.getModifiers()));
            if (constant) {
                CHECK.holds("NONE is public", Modifier.isPublic(field.getModifiers()));
            }
            boolean isStatic = Modifier.isStatic(field.getModifiers());
            CHECK.holds(field + " is final if static", !isStatic || Modifier.isFinal(field.getModifiers()));
        }
    }

    private static void source(List<String> lines) {
        boolean inComment = false;
        int methodFrom = -1;
        for (int i = 0; i < lines.size(); i++) {
            String line = lines.get(i);
            CHECK.holds("line " + (i + 1) + " is at most 120 long", line.length() <= 120);
            String trimmed = line.trim();
            inComment = inComment || trimmed.startsWith("/*");
            if (!inComment && !trimmed.startsWith("//")) {
                for (String forbidden : FORBIDDEN) {
                    boolean found = Pattern.compile(forbidden).matcher(line).find();
                    CHECK.holds("line " + (i + 1) + " without " + forbidden, !found);
                }
            }
            inComment = inComment && !trimmed.endsWith("*/");
            if (line.matches("( {4}| {8})[a-zA-Z].*\\(.*\\{")) {
                methodFrom = i;
            }
            if (line.matches("( {4}| {8})\\}") && methodFrom >= 0) {
                CHECK.holds("the method at line " + (methodFrom + 1) + " is short", i - methodFrom <= 60);
            }
        }
    }
}
