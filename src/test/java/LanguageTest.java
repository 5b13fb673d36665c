import java.io.IOException;
import java.lang.reflect.Field;
import java.lang.reflect.Method;
import java.lang.reflect.Modifier;
import java.nio.file.Files;
import java.nio.file.Path;
import java.util.ArrayList;
import java.util.Arrays;
import java.util.List;
import java.util.TreeSet;
import java.util.regex.Matcher;
import java.util.regex.Pattern;

/** Those rules of LANGUAGE.md that the text of the class shows. The argument is its file. */
public final class LanguageTest {
    private static final String[] FORBIDDEN = {
        "->", "::", "\\bimport\\b", "\\bpackage\\b", "\\bfinally\\b", "\\bassert\\b", "\\bsynchronized\\b",
        "\\bcatch\\b", "\\bfloat\\b", "\\.equals\\(", "hashCode", "toString", "\\+ *\"", "\" *\\+", "\\bvar\\b",
        "static \\{", "\\bprotected\\b", "\\bpublic static (?!final)"
    };
    /** An array that is a constant is never changed. */
    private static final String CONSTANT_CHANGED = "\\b[A-Z][A-Z_]+\\[[^\\]]*\\] *([-+*/]?=[^=]|\\+\\+|--)";
    private static final String EXCEPTIONS = "(IllegalState|IllegalArgument|IndexOutOfBounds)Exception";
    private static final String LIBRARY = "String|StringBuilder|Integer|Long|Math|System|Arrays|ArrayList|List|Iterator"
        + "|Iterable|Comparable|" + EXCEPTIONS;
    /** The functions that rule 4 names; no constant of the library is among them. */
    private static final String FUNCTIONS = "System\\.arraycopy\\(|Arrays\\.(copyOf|copyOfRange|fill)\\(|List\\.of\\("
        + "|(Integer|Long|Math)\\.(compare|max|min|abs|bitCount|floorDiv|floorMod)\\(";
    private static final Pattern CLASS_USED = Pattern.compile("\\b([A-Z]\\w*[a-z]\\w*)\\b(\\.\\w+\\(?)?");
    private static final String MADE = "throw new " + EXCEPTIONS + "\\(\"[^\"]*\"\\);"
        + "| {4,8}(private )?final \\S+ \\w+ = (\\{?(, )?new \\w+[\\[(].*[\\])])+\\}?;";

    private final Check check = new Check();
    private final List<String> lines;
    /** The same lines, empty where they are comments. */
    private final List<String> code = new ArrayList<>();

    private LanguageTest(List<String> lines) {
        this.lines = lines;
        boolean inComment = false;
        for (String line : lines) {
            String trimmed = line.trim();
            inComment |= trimmed.startsWith("/*");
            code.add(inComment || trimmed.startsWith("//") ? "" : line);
            inComment &= !trimmed.endsWith("*/");
        }
    }

    public static void main(String[] args) throws IOException {
        LanguageTest test = new LanguageTest(Files.readAllLines(Path.of(args[0])));
        test.classes();
        test.staticFields(LentMargins.class);
        test.words();
        test.library();
        test.lengths();
        test.check.finish();
    }

    private void classes() {
        TreeSet<String> publicNames = new TreeSet<>();
        for (Method method : LentMargins.class.getMethods()) {
            publicNames.add(method.getName());
        }
        check.holds("the classes are at most 12", LentMargins.class.getDeclaredClasses().length <= 11);
        noNameTwice(LentMargins.class, publicNames);
        for (Class<?> inside : LentMargins.class.getDeclaredClasses()) {
            check.holds(inside + " is static", Modifier.isStatic(inside.getModifiers()));
            noNameTwice(inside, publicNames);
            staticFields(inside);
        }
    }

    private void noNameTwice(Class<?> type, TreeSet<String> publicNames) {
        for (Method method : type.getDeclaredMethods()) {
            boolean isFace = type == LentMargins.class && Modifier.isPublic(method.getModifiers());
            check.holds(method + " has a name of its own", isFace || !publicNames.contains(method.getName()));
            check.holds(method + " takes at most seven", method.getParameterCount() <= 7);
        }
        long fields = Arrays.stream(type.getDeclaredFields()).filter(f -> !Modifier.isStatic(f.getModifiers())).count();
        check.holds(type + " has at most 20 fields", fields <= 20);
    }

    private void staticFields(Class<?> type) {
        for (Field field : type.getDeclaredFields()) {
            boolean isStatic = Modifier.isStatic(field.getModifiers());
            check.holds(field + " is final if static", !isStatic || Modifier.isFinal(field.getModifiers()));
        }
    }

    private void words() {
        for (int i = 0; i < lines.size(); i++) {
            String where = "line " + (i + 1);
            String line = code.get(i);
            for (String forbidden : FORBIDDEN) {
                check.holds(where + " without " + forbidden, !Pattern.compile(forbidden).matcher(line).find());
            }
            check.holds(where + " changes no constant", !Pattern.compile(CONSTANT_CHANGED).matcher(line).find());
            // All rows are made with their object, so that no run of calls fills the room.
            boolean makes = line.contains("new ");
            check.holds(where + " makes nothing in a call", !makes || Pattern.compile(MADE).matcher(line).find());
        }
    }

    private void library() {
        TreeSet<String> own = new TreeSet<>(List.of("LentMargins"));
        for (Class<?> inside : LentMargins.class.getDeclaredClasses()) {
            own.add(inside.getSimpleName());
        }
        for (int i = 0; i < lines.size(); i++) {
            Matcher used = CLASS_USED.matcher(code.get(i).replaceAll("\"[^\"]*\"", "\"\""));
            while (used.find()) {
                boolean isOwn = own.contains(used.group(1));
                check.holds("line " + (i + 1) + " may use " + used.group(1), isOwn || used.group(1).matches(LIBRARY));
                boolean allowed = isOwn || used.group(2) == null || used.group().matches(FUNCTIONS);
                check.holds("line " + (i + 1) + " may use " + used.group(), allowed);
            }
        }
    }

    private void lengths() {
        int methodFrom = -1;
        for (int i = 0; i < lines.size(); i++) {
            String line = lines.get(i);
            check.holds("line " + (i + 1) + " is at most 120 long", line.length() <= 120);
            if (line.matches("( {4}| {8})[a-zA-Z].*\\(.*\\{")) {
                methodFrom = i;
            }
            if (line.matches("( {4}| {8})\\}") && methodFrom >= 0) {
                check.holds("the method at line " + (methodFrom + 1) + " is short", i - methodFrom <= 60);
            }
        }
    }
}
