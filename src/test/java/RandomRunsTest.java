import java.util.Random;
import java.util.function.Supplier;

/** Runs of up to 512 random calls, with fixed seeds, whose answers are compared with those of the model. */
public final class RandomRunsTest {
    private static final String[] TEXT_PARTS = {
        "a", "be", "\"cat", "(dim", "elm)", "fig.", "gum,", "hut-", "ivy;", "jam!", "\"kit\"", "lemmingwwmwm",
        "m/", "nut./", "(oak)/", "\"", "(", "/", "abcdefghijkl", "abcdefghijklm", "A", "1", "\u007f", ".", "w.w"
    };

    /** The document promises nothing for later calls. */
    private static final int MOST_CALLS = 512;

    private final Check check = new Check();
    private int calls = 0;
    private Random random = new Random(0);
    private LentMargins object = new LentMargins();
    private Model model = new Model();
    private String run = "";

    public static void main(String[] args) {
        RandomRunsTest test = new RandomRunsTest();
        for (int seed = 1; seed <= 600; seed++) {
            test.run(seed);
        }
        test.check.holds("lines were taken back", Model.linesBack > 1000);
        test.check.holds("lines were lent to", Model.linesLent > 1000);
        test.check.holds("lines were too wide", Model.linesWide > 1000);
        test.check.holds("rows were refused for the debt", Model.rowsRefusedByDebt > 1000);
        test.check.finish();
    }

    private void run(int seed) {
        random = new Random(seed);
        object = new LentMargins();
        model = new Model();
        calls = 0;
        run = "run " + seed;
        // Half of the runs begin with many words, so that there are pages enough.
        if (seed % 2 == 0) {
            begin();
        }
        while (calls < MOST_CALLS) {
            step();
        }
    }

    private void begin() {
        int[] settings = {pick(20, 60), pick(2, 5), pick(0, 10), pick(0, 10), pick(0, 4), pick(0, 3) == 0 ? 0 : 1};
        for (int what = 0; what < settings.length; what++) {
            int index = what;
            due("set", () -> (long) object.set(index, settings[index]), () -> model.set(index, settings[index]));
        }
        int words = pick(10, 60);
        for (int i = 0; i < words; i++) {
            insertAt(i);
        }
    }

    private int pick(int low, int high) {
        return low + random.nextInt(high - low + 1);
    }

    /** Mostly in the range, sometimes an edge of it, seldom out of it. */
    private int near(int low, int high) {
        int kind = random.nextInt(40);
        if (kind == 0) {
            return low - 1;
        }
        if (kind == 1) {
            return high + 1;
        }
        if (kind == 2) {
            return random.nextBoolean() ? Integer.MIN_VALUE : Integer.MAX_VALUE;
        }
        if (kind < 5) {
            return kind == 3 ? low : high;
        }
        return high < low ? low : pick(low, high);
    }

    private int words() {
        return model.state.words().size();
    }

    private void insertAt(int at) {
        int first = near(0, 25);
        int letters = random.nextInt(3) == 0 ? near(1, 12) : near(1, 4);
        int ahead = near(-1, 1);
        int behind = near(-1, 7);
        due("insert " + at + " " + first + " " + letters + " " + ahead + " " + behind,
            () -> (long) object.insert(at, first, letters, ahead, behind),
            () -> model.insert(at, first, letters, ahead, behind));
    }

    private void step() {
        int kind = random.nextInt(100);
        if (kind < 25) {
            insertAt(near(0, words()));
        } else if (kind < 48) {
            change(kind);
        } else if (kind < 53) {
            due("undo", () -> (long) object.undo(), model::undo);
        } else if (kind < 65) {
            write(kind);
        } else if (kind < 70) {
            whatIf(kind);
        } else {
            ask(kind);
        }
        if (kind % 4 == 0) {
            due("digest", object::digest, model::digest);
        }
    }

    private void change(int kind) {
        int word = near(0, words() - 1);
        if (kind < 28) {
            due("removeWord " + word, () -> (long) object.removeWord(word), () -> model.removeWord(word));
        } else if (kind < 33) {
            boolean ends = random.nextBoolean();
            due("endParagraph " + word + " " + ends, () -> (long) object.endParagraph(word, ends),
                () -> model.endParagraph(word, ends));
        } else if (kind < 38) {
            int ahead = near(-1, 1);
            int behind = near(-1, 7);
            due("setSigns " + word + " " + ahead + " " + behind, () -> (long) object.setSigns(word, ahead, behind),
                () -> model.setSigns(word, ahead, behind));
        } else if (kind < 44) {
            int what = near(0, 5);
            int[] high = {60, 6, 10, 10, 10, 1};
            int[] low = {20, 2, 0, 0, 0, 0};
            int value = what < 0 || what > 5 ? 20 : near(low[what], high[what]);
            due("set " + what + " " + value, () -> (long) object.set(what, value), () -> model.set(what, value));
        } else {
            int sign = near(0, 7);
            int share = near(0, 100);
            due("setShare " + sign + " " + share, () -> (long) object.setShare(sign, share),
                () -> model.setShare(sign, share));
        }
    }

    private void write(int kind) {
        if (kind == 53 && random.nextInt(3) == 0) {
            due("clearText", () -> (long) object.clearText(), model::clearText);
        } else if (kind < 56) {
            due("readWords", () -> (long) object.readWords(), model::readWords);
        } else if (kind == 56) {
            int value = near(0, 127);
            due("type " + value, () -> (long) object.type(value), () -> model.type(value));
        } else {
            // Valid parts come first in the list; the others are seldom taken.
            int parts = random.nextInt(12) == 0 ? TEXT_PARTS.length : 15;
            String part = TEXT_PARTS[random.nextInt(parts)];
            for (char c : (part + (random.nextInt(30) == 0 ? "" : " ")).toCharArray()) {
                due("type " + (int) c, () -> (long) object.type(c), () -> model.type(c));
            }
        }
    }

    private void whatIf(int kind) {
        if (kind == 65) {
            int lines = near(1, 60);
            due("measureFor " + lines, () -> (long) object.measureFor(lines), () -> model.measureFor(lines));
        } else if (kind == 66) {
            due("linesUnlent", () -> (long) object.linesUnlent(), model::linesUnlent);
        } else if (kind == 67) {
            int most = near(0, 20);
            due("evenest " + most, () -> (long) object.evenest(most), () -> model.evenest(most));
        } else {
            int measure = near(20, 200);
            due("linesWith " + measure, () -> (long) object.linesWith(measure), () -> model.linesWith(measure));
        }
    }

    private void ask(int kind) {
        int word = near(0, words() - 1);
        int line = near(0, words() / 2);
        int page = near(0, words() / 6);
        int what = near(0, 13);
        if (kind < 75) {
            due("word " + word + " " + what, () -> (long) object.word(word, what), () -> model.word(word, what));
        } else if (kind < 82) {
            due("line " + line + " " + what, () -> (long) object.line(line, what), () -> model.line(line, what));
        } else if (kind < 86) {
            int value = near(0, 5);
            due("page " + page + " " + value, () -> (long) object.page(page, value), () -> model.page(page, value));
        } else if (kind < 90) {
            due("whole " + what, () -> (long) object.whole(what), () -> model.whole(what));
        } else if (kind < 92) {
            int sign = near(0, 7);
            due("share " + sign, () -> (long) object.share(sign), () -> model.share(sign));
        } else if (kind < 94) {
            due("unevenness", () -> (long) object.unevenness(), model::unevenness);
        } else if (kind < 96) {
            due("meanEmpty", object::meanEmpty, model::meanEmpty);
        } else {
            int index = near(0, 30);
            due("lineByte " + line + " " + index, () -> (long) object.lineByte(line, index),
                () -> model.lineByte(line, index));
        }
    }

    private void due(String call, Supplier<Object> real, Supplier<Object> want) {
        if (calls >= MOST_CALLS) {
            return;
        }
        calls++;
        Object got;
        try {
            got = real.get();
        } catch (RuntimeException e) {
            got = e.getClass().getSimpleName();
        }
        Object due = want.get();
        String what = run + " call " + calls + " " + call;
        check.holds(what + " answered " + got + ", due is " + due + ": it", due.equals(got));
    }
}
