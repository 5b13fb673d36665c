import java.io.IOException;
import java.lang.reflect.Field;
import java.lang.reflect.Method;
import java.lang.reflect.Modifier;
import java.nio.file.Files;
import java.nio.file.Path;
import java.util.ArrayList;
import java.util.List;
import java.util.regex.Matcher;
import java.util.regex.Pattern;

/** The face of the class is the one that the document writes, and nothing beside it. The argument is its file. */
public final class FaceTest {
    private static final Path DOCUMENT = Path.of("../shared/DOC.md");
    private static final Pattern METHOD = Pattern.compile("public \\w+ (\\w+)\\(.*");
    private static final Pattern SECTION = Pattern.compile("Ahead of the calls (.*) the interface says: ----(.*)\\.");

    private final Check check = new Check();
    private final List<String> face = new ArrayList<>();
    /** What the document says ahead of some calls, and the calls, in their order. */
    private final List<String> sections = new ArrayList<>();

    public static void main(String[] args) throws IOException {
        FaceTest test = new FaceTest();
        test.readDocument();
        test.says(Files.readString(Path.of(args[0])));
        test.hasTheSections(Files.readAllLines(Path.of(args[0])));
        test.hasNothingElse();
        test.check.finish();
    }

    private void readDocument() throws IOException {
        boolean inCode = false;
        for (String line : Files.readAllLines(DOCUMENT)) {
            inCode ^= line.startsWith("```");
            Matcher section = SECTION.matcher(line);
            if (inCode && line.contains("public")) {
                face.add(line.trim());
            } else if (section.matches()) {
                sections.add("//" + " ----" + section.group(2));
                sections.addAll(List.of(section.group(1).replace("`", "").split(", ")));
            }
        }
        check.same("the class, its constant, its constructor and its methods", 26, face.size());
        check.same("sections and their calls", 27, sections.size());
    }

    private void says(String source) {
        String inOneLine = source.replaceAll("\\s+", " ");
        for (String line : face) {
            String due = line.replace(");", ") {").replaceFirst("( throws .*);", "$1 {");
            check.holds("the class to say: " + due, inOneLine.contains(due));
        }
    }

    private void hasTheSections(List<String> source) {
        List<String> got = new ArrayList<>();
        for (String line : source) {
            Matcher method = METHOD.matcher(line.trim());
            if (method.matches()) {
                got.add(method.group(1));
            } else if (line.startsWith("    // ----")) {
                got.add(line.trim());
            }
        }
        // A last section may hold what is private.
        boolean same = got.size() >= sections.size() && got.subList(0, sections.size()).equals(sections);
        check.holds("the calls in their sections: " + got + ", due are " + sections + ": it", same);
    }

    private void hasNothingElse() {
        List<String> methods = new ArrayList<>();
        for (Method method : LentMargins.class.getDeclaredMethods()) {
            boolean isPrivate = Modifier.isPrivate(method.getModifiers());
            check.holds(method + " is public or private", isPrivate || Modifier.isPublic(method.getModifiers()));
            if (!isPrivate) {
                methods.add(method.getName());
                check.holds(method + " belongs to objects", !Modifier.isStatic(method.getModifiers()));
            }
        }
        check.same("public methods", face.size() - 3, methods.size());
        check.same("constructors", 1, LentMargins.class.getDeclaredConstructors().length);
        for (Field field : LentMargins.class.getDeclaredFields()) {
            boolean constant = field.getName().equals("NONE");
            check.holds(field + " is private or NONE", constant || Modifier.isPrivate(field.getModifiers()));
        }
        for (Class<?> inside : LentMargins.class.getDeclaredClasses()) {
            check.holds(inside + " is not public", !Modifier.isPublic(inside.getModifiers()));
            check.holds(inside + " is not protected", !Modifier.isProtected(inside.getModifiers()));
        }
    }
}
