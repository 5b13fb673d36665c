import java.io.ByteArrayOutputStream;
import java.io.IOException;
import java.io.PrintStream;
import java.lang.reflect.Method;
import java.lang.reflect.Modifier;
import java.nio.charset.StandardCharsets;
import java.nio.file.DirectoryStream;
import java.nio.file.Files;
import java.nio.file.Path;
import java.util.TreeSet;
import java.util.regex.Matcher;
import java.util.regex.Pattern;

/** What README.md says holds: its example, what that prints, the methods, the files and the tests that it names. */
public final class ReadmeTest {
    private static final Path TESTS = Path.of("src/test/java");
    private static final Pattern PATH = Pattern.compile("(?:\\.\\./shared|src|\\.ci)/[\\w./]*\\w");

    private final Check check = new Check();
    private final String readme;

    private ReadmeTest(String readme) {
        this.readme = readme;
    }

    public static void main(String[] args) throws IOException {
        ReadmeTest test = new ReadmeTest(Files.readString(Path.of("README.md")));
        test.showsTheExample();
        test.namesEveryMethod();
        test.namesEveryTest();
        test.namesFilesThatAre();
        test.check.finish();
    }

    private String block(String kind) {
        String begin = "```" + kind + "\n";
        int from = readme.indexOf(begin);
        int to = readme.indexOf("```\n", from + begin.length());
        check.holds("a block of " + kind, from >= 0 && to >= 0);
        return from >= 0 && to >= 0 ? readme.substring(from + begin.length(), to) : "";
    }

    private void showsTheExample() throws IOException {
        String example = Files.readString(TESTS.resolve("ReadmeExample.java"));
        check.holds("the example to be as its file", block("java").equals(example));
        String printed = printedByTheExample();
        check.holds("the example to print what is said, not " + printed, block("text").equals(printed));
    }

    private static String printedByTheExample() {
        ByteArrayOutputStream bytes = new ByteArrayOutputStream();
        PrintStream before = System.out;
        System.setOut(new PrintStream(bytes, true, StandardCharsets.UTF_8));
        ReadmeExample.main(new String[0]);
        System.setOut(before);
        return bytes.toString(StandardCharsets.UTF_8).replace(System.lineSeparator(), "\n");
    }

    private void namesEveryMethod() {
        for (Method method : LentMargins.class.getDeclaredMethods()) {
            boolean named = readme.contains("`" + method.getName() + "`");
            check.holds(method.getName() + " to be named", named || !Modifier.isPublic(method.getModifiers()));
        }
    }

    private void namesEveryTest() throws IOException {
        TreeSet<String> named = new TreeSet<>();
        Matcher name = Pattern.compile("`(\\w+Test)`").matcher(readme);
        while (name.find()) {
            named.add(name.group(1) + ".java");
        }
        TreeSet<String> files = new TreeSet<>();
        try (DirectoryStream<Path> tests = Files.newDirectoryStream(TESTS, "*Test.java")) {
            for (Path test : tests) {
                files.add(test.getFileName().toString());
            }
        }
        check.holds("the tests " + named + " to be " + files, named.equals(files));
    }

    private void namesFilesThatAre() {
        Matcher path = PATH.matcher(readme);
        int found = 0;
        while (path.find()) {
            check.holds(path.group() + " to be there", Files.exists(Path.of(path.group())));
            found++;
        }
        check.holds("paths to be named", found > 5);
        check.holds(".ci/run can be run", Files.isExecutable(Path.of(".ci/run")));
    }
}
