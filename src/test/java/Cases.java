import java.lang.reflect.InvocationTargetException;
import java.lang.reflect.Method;
import java.util.ArrayList;
import java.util.Arrays;
import java.util.Comparator;
import java.util.List;
import java.util.function.Consumer;
import java.util.function.Supplier;

/** What the tests with answers worked out by hand share: objects to begin with, and ways to compare answers. */
abstract class Cases {
    static final int NONE = LentMargins.NONE;
    static final int LOWEST = Integer.MIN_VALUE;
    static final int HIGHEST = Integer.MAX_VALUE;
    static final Class<?> INDEX = IndexOutOfBoundsException.class;
    static final Class<?> ARGUMENT = IllegalArgumentException.class;
    static final Class<?> STATE = IllegalStateException.class;

    final Check check = new Check();

    // ---- running

    /** The tests of a class that name a sentence, in the order of the promises. */
    static List<Method> testsOf(Class<?> type) {
        List<Method> tests = new ArrayList<>();
        for (Method method : type.getDeclaredMethods()) {
            if (method.isAnnotationPresent(Sentence.class)) {
                tests.add(method);
            }
        }
        tests.sort(Comparator.comparing((Method m) -> m.getAnnotation(Sentence.class).promise())
            .thenComparing(Method::getName));
        return tests;
    }

    final void runAll() throws IllegalAccessException {
        for (Method test : testsOf(getClass())) {
            Sentence sentence = test.getAnnotation(Sentence.class);
            check.begin("promise " + sentence.promise() + ", " + test.getName() + " (" + sentence.says() + "): ");
            int before = check.made();
            try {
                test.setAccessible(true);
                test.invoke(this);
            } catch (InvocationTargetException e) {
                check.holds("not to throw " + e.getCause(), false);
            }
            check.holds("to check something", check.made() > before);
        }
        check.finish();
    }

    // ---- objects to begin with

    static void typeAll(LentMargins m, String text) {
        for (char c : text.toCharArray()) {
            m.type(c);
        }
    }

    /** An object with the words of a text, which is emptied again; one state is saved. */
    static LentMargins of(String text) {
        LentMargins m = new LentMargins();
        typeAll(m, text);
        m.readWords();
        m.clearText();
        return m;
    }

    static LentMargins of(int measure, String text) {
        LentMargins m = of(text);
        m.set(0, measure);
        return m;
    }

    /** Words that are as wide as the least measure, 20, which is set: each has a line to itself. */
    static LentMargins oneWordLines(int words) {
        LentMargins m = new LentMargins();
        m.set(0, 20);
        for (int i = 0; i < words; i++) {
            m.insert(i, 0, 5, NONE, NONE);
        }
        return m;
    }

    static LentMargins sixtyWords() {
        LentMargins m = new LentMargins();
        for (int i = 0; i < 60; i++) {
            m.insert(i, i % 26, 1 + i % 12, NONE, NONE);
        }
        return m;
    }

    /** Six words in several lines, two states saved, and a text that tells words. */
    static LentMargins calm() {
        LentMargins m = of(20, "\"abcdi. aaai aiij/ (bc) dddd! ee");
        typeAll(m, "xy, (b)/ c");
        return m;
    }

    /** Two hundred bytes that tell fifty words. */
    static LentMargins fullText() {
        LentMargins m = new LentMargins();
        typeAll(m, "ab. ".repeat(50));
        return m;
    }

    /** Six words with a debt, several pages, a line taken back, a text that tells words and a full undo stack. */
    static LentMargins busy() {
        LentMargins m = of(20, "\"abcdi. aaai aiij/ (bc) dddd! ee");
        m.set(1, 2);
        m.set(4, 3);
        m.setShare(7, 60);
        m.setSigns(5, NONE, 5);
        m.endParagraph(4, true);
        typeAll(m, "xy, (b)/ c");
        return m;
    }

    // ---- comparing

    final void lineIs(String what, LentMargins m, int line, int... due) {
        for (int i = 0; i < 12; i++) {
            check.same(what + ", line " + line + " value " + i, due[i], m.line(line, i));
        }
    }

    final void pageIs(String what, LentMargins m, int page, int... due) {
        for (int i = 0; i < 6; i++) {
            check.same(what + ", page " + page + " value " + i, due[i], m.page(page, i));
        }
    }

    final void wordIs(String what, LentMargins m, int word, int... due) {
        for (int i = 0; i < 9; i++) {
            check.same(what + ", word " + word + " value " + i, due[i], m.word(word, i));
        }
    }

    final void wholeIs(String what, LentMargins m, int... due) {
        for (int i = 0; i < 14; i++) {
            check.same(what + ", whole value " + i, due[i], m.whole(i));
        }
    }

    /** The words of each line, as they are written. */
    final void linesAre(String what, LentMargins m, String... due) {
        String[] got = new String[m.whole(1)];
        for (int line = 0; line < got.length; line++) {
            got[line] = written(m, line);
        }
        check.holds(what + ": lines " + Arrays.toString(got) + ", due are " + Arrays.toString(due),
            Arrays.equals(due, got));
    }

    static String written(LentMargins m, int line) {
        StringBuilder text = new StringBuilder();
        int value = m.lineByte(line, 0);
        for (int index = 1; value != NONE && index < 9999; index++) {
            text.append((char) value);
            value = m.lineByte(line, index);
        }
        return text.toString();
    }

    /** The call must throw just this exception, and every answer after it must be as without it. */
    final void refuses(String what, Supplier<LentMargins> recipe, Class<?> due, Consumer<LentMargins> call) {
        LentMargins object = recipe.get();
        Class<?> got = null;
        try {
            call.accept(object);
        } catch (RuntimeException e) {
            got = e.getClass();
        }
        check.holds(what + " threw " + got + "; to throw " + due, got == due);
        List<Long> after = answersOf(object);
        List<Long> without = answersOf(recipe.get());
        check.holds(what + ": answers " + after + " to be " + without, after.equals(without));
    }

    /** Refuses a method's argument at each of these values, on an object that is busy. */
    final void refusesEach(String what, Class<?> due, int[] values, ArgumentCall call) {
        for (int value : values) {
            refuses(what + " " + value, Cases::busy, due, m -> call.with(m, value));
        }
    }

    interface ArgumentCall {
        void with(LentMargins m, int value);
    }

    /** The call must save one state, which undo brings back whether or not the call changes anything. */
    final void undoable(String what, Supplier<LentMargins> recipe, Consumer<LentMargins> call) {
        LentMargins object = recipe.get();
        int states = statesOf(recipe.get());
        check.holds(what + ": room for a state", states < 4);
        call.accept(object);
        check.same(what + ": states left behind undo", states, object.undo());
        List<Long> after = answersOf(object);
        List<Long> without = answersOf(recipe.get());
        check.holds(what + ": undone answers " + after + " to be " + without, after.equals(without));
    }

    /** The call must save nothing. */
    final void notUndoable(String what, Supplier<LentMargins> recipe, Consumer<LentMargins> call) {
        LentMargins object = recipe.get();
        call.accept(object);
        check.same(what + ": states saved", statesOf(recipe.get()), statesOf(object));
    }

    /** The call must change no answer at all. */
    final void changesNothing(String what, Supplier<LentMargins> recipe, Consumer<LentMargins> call) {
        LentMargins object = recipe.get();
        call.accept(object);
        List<Long> after = answersOf(object);
        List<Long> without = answersOf(recipe.get());
        check.holds(what + ": answers " + after + " to be " + without, after.equals(without));
    }

    /** The number of states saved, which are gone then. */
    static int statesOf(LentMargins m) {
        int states = 0;
        try {
            while (states < 100) {
                m.undo();
                states++;
            }
        } catch (IllegalStateException e) {
            return states;
        }
        return states;
    }

    private static List<Long> tellAll(LentMargins m) {
        return new ArrayList<>(List.of(m.digest(), (long) m.unevenness(), Double.doubleToLongBits(m.meanEmpty()),
            (long) m.linesUnlent(), (long) m.linesWith(31), (long) m.measureFor(2), (long) m.evenest(5)));
    }

    /** What an object answers now, behind each undo until none is left, and of its text. */
    static List<Long> answersOf(LentMargins m) {
        List<Long> answers = tellAll(m);
        try {
            for (int i = 0; i < 9; i++) {
                answers.add((long) m.undo());
                answers.addAll(tellAll(m));
            }
        } catch (IllegalStateException e) {
            answers.add((long) answers.size());
        }
        answers.add((long) m.readWords());
        answers.addAll(tellAll(m));
        answers.add((long) m.clearText());
        return answers;
    }
}
