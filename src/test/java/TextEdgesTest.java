import java.math.BigInteger;
import java.util.ArrayList;
import java.util.List;

/** The edges of promises 19 to 24: the text, undo and the checksum. */
public final class TextEdgesTest extends Cases {

    public static void main(String[] args) throws IllegalAccessException {
        new TextEdgesTest().runAll();
    }

    private static LentMargins typed(String text) {
        LentMargins m = new LentMargins();
        typeAll(m, text);
        return m;
    }

    // ---- promise 19: type

    @Sentence(promise = 19, says = "Appends a byte to the text.")
    private void appends() {
        LentMargins m = typed("(ab, c/ d");
        check.same("length", 9, m.whole(13));
        m.readWords();
        linesAre("in their order", m, "(ab, c", "d");
        for (int value = 0; value <= 127; value++) {
            int last = value;
            notUndoable("type " + value, Cases::calm, n -> n.type(last));
        }
    }

    @Sentence(promise = 19, says = "The text has at most 200 bytes.")
    private void twoHundredBytes() {
        LentMargins m = fullText();
        check.same("length", 200, m.whole(13));
        check.same("all of them are read", 50, m.readWords());
        LentMargins last = typed(" ".repeat(199) + "\"");
        check.same("the last one too", -10 - 200, last.readWords());
        LentMargins word = typed(" ".repeat(199) + "x");
        check.same("and taken", 1, word.readWords());
        linesAre("the word", word, "x");
    }

    @Sentence(promise = 19, says = "value: 0 to 127")
    private void typeValue() {
        LentMargins m = new LentMargins();
        for (int value = 0; value <= 127; value++) {
            check.same("value " + value, value + 1, m.type(value));
        }
    }

    @Sentence(promise = 19, says = "Returns the length of the text.")
    private void typeReturns() {
        LentMargins m = new LentMargins();
        for (int length = 1; length <= 200; length++) {
            check.same("length", length, m.type(127));
        }
    }

    @Sentence(promise = 19, says = "Throws IllegalArgumentException if value is out of range")
    private void typeRefused() {
        refusesEach("value", ARGUMENT, new int[] {-1, 128, 255, LOWEST, HIGHEST}, LentMargins::type);
        refuses("value -1", LentMargins::new, ARGUMENT, m -> m.type(-1));
    }

    @Sentence(promise = 19, says = "Throws IllegalStateException if the text has 200 bytes")
    private void typeRefusedWhenFull() {
        refuses("the least value", Cases::fullText, STATE, m -> m.type(0));
        refuses("the greatest value", Cases::fullText, STATE, m -> m.type(127));
        LentMargins m = typed(" ".repeat(199));
        check.same("with 199 it is taken", 200, m.type(32));
        m.clearText();
        check.same("and after the text was emptied", 1, m.type(32));
    }

    @Sentence(promise = 19, says = "If several exceptions of a method apply, the one that is listed first is thrown.")
    private void typeFirstListed() {
        refuses("128 when full", Cases::fullText, ARGUMENT, m -> m.type(128));
        refuses("-1 when full", Cases::fullText, ARGUMENT, m -> m.type(-1));
    }

    // ---- promise 20: clearText

    @Sentence(promise = 20, says = "Empties the text.")
    private void empties() {
        LentMargins m = typed("(abc)/ d");
        m.clearText();
        check.same("length", 0, m.whole(13));
        check.same("it tells no word", 0, m.readWords());
        m.type('z');
        check.same("and nothing of before", 1, m.readWords());
        linesAre("the word", m, "z");
        notUndoable("clearText", Cases::calm, LentMargins::clearText);
    }

    @Sentence(promise = 20, says = "Returns the length that it had.")
    private void clearReturns() {
        check.same("empty", 0, new LentMargins().clearText());
        check.same("one byte", 1, typed("\u0000").clearText());
        LentMargins m = fullText();
        check.same("full", 200, m.clearText());
        check.same("again", 0, m.clearText());
    }

    // ---- promise 21: readWords

    private void reads(String text, int due) {
        LentMargins m = typed(text);
        check.same("reading [" + text + "]", due, m.readWords());
        check.same("length of [" + text + "]", text.length(), m.whole(13));
        check.same("states after [" + text + "]", due >= 0 ? 1 : 0, statesOf(m));
    }

    @Sentence(promise = 21, says = "It tells words if it consists of words, perhaps none, with at least one space "
        + "(byte 32) between two of them; spaces may also stand at the beginning and at the end.")
    private void wordsAndSpaces() {
        reads("", 0);
        reads(" ", 0);
        reads(" ".repeat(200), 0);
        reads("a", 1);
        reads(" a", 1);
        reads("a ", 1);
        reads("   a   ", 1);
        reads("a b", 2);
        reads("a    b", 2);
        reads("a.b", -12);
        reads("a)(b)", -12);
        reads("a/b", -12);
        reads("a\tb", -11);
    }

    @Sentence(promise = 21, says = "A word is written as its sign ahead, its letters, and its sign behind; a word that "
        + "ends a paragraph has \"/\" (byte 47) directly behind it.")
    private void wordsAsTheyAreWritten() {
        LentMargins m = typed("\"ab\"/ (c) d./ e/ f, g- h; i! (zz/");
        check.same("words", 9, m.readWords());
        int[][] due = {{2, 0, 0, 1}, {1, 1, 2, 0}, {1, NONE, 3, 1}, {1, NONE, NONE, 1}, {1, NONE, 4, 0},
            {1, NONE, 5, 0}, {1, NONE, 6, 0}, {1, NONE, 7, 0}, {2, 1, NONE, 1}};
        for (int word = 0; word < 9; word++) {
            int[] values = {0, 2, 3, 4};
            for (int i = 0; i < 4; i++) {
                check.same("word " + word + " value " + values[i], due[word][i], m.word(word, values[i]));
            }
        }
        linesAre("letters", m, "\"ab\"", "(c) d.", "e", "f, g- h; i! (zz");
        reads("a /", -12);
        reads("a/.", -12);
        reads("a//", -12);
    }

    /** Types each byte behind a beginning: of all bytes, these alone can stand there. */
    private void canStandBehind(String beginning, String bytes) {
        for (char value = 0; value <= 127; value++) {
            LentMargins m = typed(beginning + value);
            int length = beginning.length();
            int answer = m.readWords();
            boolean stands = bytes.indexOf(value) >= 0;
            // What ends too soon has a fault too, but not at this byte.
            boolean accepted = answer != -10 - length;
            check.same("byte " + (int) value + " behind [" + beginning + "] stands", stands ? 1 : 0, accepted ? 1 : 0);
            if (accepted) {
                check.holds("answer " + answer + " to be a number of words or to tell the end",
                    answer >= 0 || answer == -10 - length - 1);
            }
        }
    }

    @Sentence(promise = 21, says = "The fault of the text is the index of the first byte that cannot stand at its "
        + "place")
    private void faultsOfEachByte() {
        String letters = "abcdefghijklmnopqrstuvwxyz";
        String behind = "\").,-;!";
        canStandBehind("", letters + "\"( ");
        canStandBehind(" ", letters + "\"( ");
        canStandBehind("a ", letters + "\"( ");
        canStandBehind("a/ ", letters + "\"( ");
        canStandBehind("\"", letters);
        canStandBehind("b (", letters);
        canStandBehind("a", letters + behind + "/ ");
        canStandBehind("(a", letters + behind + "/ ");
        canStandBehind("abcdefghijk", letters + behind + "/ ");
        canStandBehind("abcdefghijkl", behind + "/ ");
        canStandBehind("\"abcdefghijkl", behind + "/ ");
        canStandBehind("a.", "/ ");
        canStandBehind("\"a\"", "/ ");
        canStandBehind("a/", " ");
        canStandBehind("(a)/", " ");
        reads("a b ? (", -10 - 4);
        reads("?", -10);
        reads("a".repeat(11) + " " + "b".repeat(187) + "?", -10 - 24);
        reads(" ".repeat(199) + "?", -10 - 199);
    }

    @Sentence(promise = 21, says = "or the length of the text if it ends too soon (that is behind a sign ahead).")
    private void endsTooSoon() {
        reads("\"", -11);
        reads("(", -11);
        reads("a \"", -13);
        reads("a (", -13);
        reads(" ".repeat(199) + "(", -10 - 200);
        reads("\"a", 1);
        reads("a\"", 1);
        reads("a/", 1);
    }

    @Sentence(promise = 21, says = "A thirteenth letter and the first byte of a sixty-first word cannot stand.")
    private void thirteenLettersAndSixtyOneWords() {
        reads("abcdefghijkl", 1);
        reads("abcdefghijklm", -10 - 12);
        reads("(mmmmmmmmmmmm)/", 1);
        reads("(mmmmmmmmmmmmm)/", -10 - 13);
        reads("a bbbbbbbbbbbbbb", -10 - 14);
        String sixty = "a ".repeat(60);
        reads("a ".repeat(59) + "a", 60);
        reads(sixty + " ".repeat(80), 60);
        reads(sixty + "b", -10 - 120);
        reads(sixty + "\"b", -10 - 120);
        reads(sixty + " (b", -10 - 121);
        reads(sixty + ".", -10 - 120);
        reads("a ".repeat(59) + "a./ ", 60);
        reads("a ".repeat(59) + "a./b", -10 - 121);
    }

    @Sentence(promise = 21, says = "Takes the words that the text tells in place of all that there are; the text "
        + "stays.")
    private void takesTheWords() {
        LentMargins m = sixtyWords();
        m.set(0, 44);
        m.setShare(4, 9);
        typeAll(m, "b/ (cc!");
        check.same("two in place of sixty", 2, m.readWords());
        linesAre("words", m, "b", "(cc!");
        check.same("settings stay", 44, m.whole(4));
        check.same("shares stay", 9, m.share(4));
        check.same("the text stays", 7, m.whole(13));
        check.same("and tells them again", 2, m.readWords());
        m.clearText();
        check.same("none in place of two", 0, m.readWords());
        check.same("words", 0, m.whole(0));
        check.same("lines", 0, m.whole(1));
        LentMargins signs = of("(a)/ b");
        typeAll(signs, "a b");
        signs.readWords();
        wordIs("nothing of the words of before", signs, 0, 1, 4, NONE, NONE, 0, 0, 0, 0, 0);
    }

    @Sentence(promise = 21, says = "Undoable, if it has no fault.")
    private void readIsUndoable() {
        undoable("other words", Cases::calm, LentMargins::readWords);
        undoable("no words", () -> of("a b"), LentMargins::readWords);
        undoable("no words in place of none", LentMargins::new, LentMargins::readWords);
        undoable("the same words", () -> {
            LentMargins m = typed("a b/ c");
            m.readWords();
            return m;
        }, LentMargins::readWords);
        for (String fault : new String[] {"?", "a b \"", "a/b", "abcdefghijklm"}) {
            changesNothing("a fault in " + fault, () -> {
                LentMargins m = busy();
                m.clearText();
                typeAll(m, fault);
                return m;
            }, LentMargins::readWords);
        }
    }

    @Sentence(promise = 21, says = "Returns the number of words; -10 minus the fault if it has one (then nothing "
        + "changes).")
    private void readReturns() {
        reads("", 0);
        reads("a ".repeat(60), 60);
        reads("/", -10);
        reads(" ".repeat(199) + "\"", -210);
        LentMargins m = of("x (y");
        typeAll(m, "a b c ?");
        long before = m.digest();
        check.same("a fault at 6", -16, m.readWords());
        check.same("nothing changes", before, m.digest());
        linesAre("the words", m, "x (y");
    }

    // ---- promise 22: lineByte

    @Sentence(promise = 22, says = "Returns a byte of a line as it is written: its words with their signs, with one "
        + "space between two of them, without \"/\".")
    private void bytesOfLines() {
        linesAre("all signs", of("\"a\"   (b)/ c. d, e-/ f; g!/"), "\"a\" (b)", "c. d, e-", "f; g!");
        linesAre("one letter", of("i"), "i");
        linesAre("no signs", of(20, "aaaaa/ bb c"), "aaaaa", "bb c");
        changesNothing("it", Cases::busy, n -> n.lineByte(0, 1));
    }

    @Sentence(promise = 22, says = "line: number of a line, from 0 through all pages")
    private void byteOfWhichLine() {
        LentMargins m = new LentMargins();
        m.set(0, 20);
        m.set(1, 2);
        for (int i = 0; i < 60; i++) {
            m.insert(i, i % 26, 12, NONE, NONE);
        }
        for (int line = 0; line < 60; line++) {
            check.same("line " + line, 'a' + line % 26, m.lineByte(line, 0));
        }
    }

    @Sentence(promise = 22, says = "index: 0 or more")
    private void byteAtWhichIndex() {
        LentMargins m = of(200, "(abcdefghijkl) \"z\"");
        String due = "(abcdefghijkl) \"z\"";
        for (int index = 0; index < due.length(); index++) {
            check.same("index " + index, due.charAt(index), m.lineByte(0, index));
        }
    }

    @Sentence(promise = 22, says = "Returns the byte; NONE if there are not so many.")
    private void noSuchByte() {
        LentMargins m = of(20, "(ab) c aaaaa");
        check.same("the last one of line 0", 'c', m.lineByte(0, 5));
        check.same("of line 1", 'a', m.lineByte(1, 4));
        for (int index : new int[] {6, 7, 100, HIGHEST - 1, HIGHEST}) {
            check.same("line 0 index " + index, NONE, m.lineByte(0, index));
            check.same("line 1 index " + index, NONE, m.lineByte(1, index));
        }
        check.same("just behind line 1", NONE, m.lineByte(1, 5));
        check.same("where a slash would stand", NONE, of("a/ b").lineByte(0, 1));
    }

    @Sentence(promise = 22, says = "Throws IndexOutOfBoundsException if there is no such line")
    private void byteOfNoLine() {
        int lines = busy().whole(1);
        int[] wrong = {-1, lines, lines + 1, 60, LOWEST, HIGHEST};
        refusesEach("line", INDEX, wrong, (m, line) -> m.lineByte(line, 0));
        refuses("line 0 of none", LentMargins::new, INDEX, m -> m.lineByte(0, 0));
        refuses("line 60 of 60", () -> oneWordLines(60), INDEX, m -> m.lineByte(60, 0));
    }

    @Sentence(promise = 22, says = "Throws IllegalArgumentException if index is negative")
    private void byteAtNegativeIndex() {
        refusesEach("index", ARGUMENT, new int[] {-1, -2, LOWEST}, (m, index) -> m.lineByte(0, index));
    }

    @Sentence(promise = 22, says = "NONE is returned only if no exception applies.")
    private void byteRefusedThoughThereIsNone() {
        refuses("no line, and far behind", Cases::busy, INDEX, m -> m.lineByte(m.whole(1), HIGHEST));
    }

    @Sentence(promise = 22, says = "If several exceptions of a method apply, the one that is listed first is thrown.")
    private void byteFirstListed() {
        refuses("both", Cases::busy, INDEX, m -> m.lineByte(-1, -1));
        refuses("both", LentMargins::new, INDEX, m -> m.lineByte(0, -1));
    }

    // ---- promise 23: undo

    @Sentence(promise = 23, says = "Every method that is marked \"undoable\" saves the whole state but the text on an "
        + "undo stack when it ends normally, also if it changes nothing.")
    private void theWholeStateButTheText() {
        LentMargins m = of(30, "\"ab. c/");
        m.setShare(0, 7);
        long before = m.digest();
        m.insert(0, 0, 1, NONE, NONE);
        check.same("undo", 3, m.undo());
        check.same("all is as before", before, m.digest());
        typeAll(m, "x y");
        m.readWords();
        m.type('z');
        m.undo();
        check.same("the text is not", 4, m.whole(13));
        linesAre("the words are", m, "\"ab. c");
        check.same("it tells x yz", 2, m.readWords());
        linesAre("and they can be taken", m, "x yz");
        LentMargins same = new LentMargins();
        same.set(0, 60);
        same.setShare(7, 50);
        same.readWords();
        check.same("three that change nothing", 3, statesOf(same));
    }

    @Sentence(promise = 23, says = "A call that throws an exception changes nothing.")
    private void refusedCallsSaveNothing() {
        refuses("insert", Cases::busy, INDEX, m -> m.insert(9, 0, 1, 0, 0));
        refuses("removeWord", Cases::busy, INDEX, m -> m.removeWord(6));
        refuses("endParagraph", Cases::busy, INDEX, m -> m.endParagraph(-1, true));
        refuses("setSigns", Cases::busy, ARGUMENT, m -> m.setSigns(0, 3, 0));
        refuses("set", Cases::busy, ARGUMENT, m -> m.set(0, 0));
        refuses("setShare", Cases::busy, ARGUMENT, m -> m.setShare(0, 101));
        refuses("type", Cases::busy, ARGUMENT, m -> m.type(128));
        refuses("evenest", Cases::busy, ARGUMENT, m -> m.evenest(99));
        LentMargins m = busy();
        for (int i = 0; i < 6; i++) {
            check.refuses("one of six", m, ARGUMENT, () -> m.insert(0, 0, 0, 0, 0));
        }
        check.same("the four states stay", 4, statesOf(m));
    }

    @Sentence(promise = 23, says = "The saved state is the one from before the call.")
    private void theStateFromBefore() {
        LentMargins m = of("a b");
        m.removeWord(0);
        m.removeWord(0);
        m.undo();
        linesAre("one word", m, "b");
        m.undo();
        linesAre("two words", m, "a b");
        m.undo();
        check.same("no word", 0, m.whole(0));
    }

    @Sentence(promise = 23, says = "The stack keeps the latest 4 saved states and drops older ones.")
    private void fourStates() {
        for (int calls = 0; calls <= 9; calls++) {
            LentMargins m = new LentMargins();
            List<Long> digests = new ArrayList<>();
            for (int i = 0; i < calls; i++) {
                digests.add(m.digest());
                m.insert(i, i, 1 + i, 0, NONE);
            }
            int states = Math.min(4, calls);
            for (int left = states - 1; left >= 0; left--) {
                check.same(calls + " calls, states left", left, m.undo());
                check.same("words then", calls - states + left, m.whole(0));
                check.holds("letters of the last word", left == 0 || m.word(m.whole(0) - 1, 0) == m.whole(0));
            }
            LentMargins rest = m;
            check.refuses("one undo more", m, STATE, rest::undo);
        }
        LentMargins mixed = new LentMargins();
        for (int i = 0; i < 6; i++) {
            mixed.insert(0, i, 1, NONE, NONE);
        }
        mixed.undo();
        mixed.undo();
        for (int i = 0; i < 3; i++) {
            mixed.removeWord(0);
        }
        int[] words = {2, 3, 4, 3};
        for (int i = 0; i < 4; i++) {
            check.same("states left", 3 - i, mixed.undo());
            check.same("words of the states that stayed", words[i], mixed.whole(0));
        }
    }

    @Sentence(promise = 23, says = "Restores the latest saved state and removes it from the undo stack.")
    private void restoresAndRemoves() {
        LentMargins m = of("a");
        m.endParagraph(0, true);
        m.setSigns(0, 0, 0);
        m.setShare(1, 11);
        m.set(2, 9);
        m.undo();
        check.same("setting", 3, m.whole(6));
        check.same("share stays", 11, m.share(1));
        m.undo();
        check.same("share", 50, m.share(1));
        check.same("sign stays", 0, m.word(0, 2));
        m.undo();
        check.same("sign", NONE, m.word(0, 2));
        check.same("end stays", 1, m.word(0, 4));
        m.undo();
        check.same("end", 0, m.word(0, 4));
        refuses("and one more", () -> {
            LentMargins n = of("a");
            n.undo();
            return n;
        }, STATE, LentMargins::undo);
        LentMargins once = of("a");
        once.undo();
        check.same("undo is not undone", 0, once.whole(0));
        once.insert(0, 25, 1, NONE, NONE);
        check.same("a new state behind an undone one", 0, once.undo());
    }

    @Sentence(promise = 23, says = "Returns the number of states that are left on the stack.")
    private void undoReturns() {
        LentMargins m = busy();
        for (int left = 3; left >= 0; left--) {
            check.same("left", left, m.undo());
        }
    }

    @Sentence(promise = 23, says = "Throws IllegalStateException if the stack is empty")
    private void undoRefused() {
        refuses("at first", LentMargins::new, STATE, LentMargins::undo);
        refuses("after the last one", () -> {
            LentMargins m = busy();
            statesOf(m);
            return m;
        }, STATE, LentMargins::undo);
        refuses("after a fault in the text", () -> {
            LentMargins m = typed("?");
            m.readWords();
            return m;
        }, STATE, LentMargins::undo);
    }

    // ---- promise 24: digest

    @Sentence(promise = 24, says = "Returns a hash of the state.")
    private void digestChangesNothing() {
        LentMargins m = busy();
        check.same("again", m.digest(), m.digest());
        changesNothing("it", Cases::busy, LentMargins::digest);
        check.holds("another text of the same length has the same one",
            typed("ab").digest() == typed("?!").digest());
        check.holds("another length has another one", typed("ab").digest() != typed("a").digest());
    }

    /** The values that the document lists, each by its own call. */
    private static List<Integer> valuesOf(LentMargins m, int states) {
        List<Integer> values = new ArrayList<>();
        values.add(states);
        for (int what = 0; what < 14; what++) {
            values.add(m.whole(what));
        }
        for (int sign = 0; sign < 8; sign++) {
            values.add(m.share(sign));
        }
        for (int word = 0; word < m.whole(0); word++) {
            for (int what = 0; what < 9; what++) {
                values.add(m.word(word, what));
            }
        }
        for (int line = 0; line < m.whole(1); line++) {
            for (int what = 0; what < 12; what++) {
                values.add(m.line(line, what));
            }
            for (char value : written(m, line).toCharArray()) {
                values.add((int) value);
            }
        }
        for (int page = 0; page < m.whole(2); page++) {
            for (int what = 0; what < 6; what++) {
                values.add(m.page(page, what));
            }
        }
        return values;
    }

    private static BigInteger hashOf(List<Integer> values) {
        BigInteger hash = BigInteger.valueOf(43262);
        for (int value : values) {
            hash = hash.multiply(BigInteger.valueOf(31)).add(BigInteger.valueOf(value));
        }
        return hash;
    }

    @Sentence(promise = 24, says = "It starts with h = 43262.")
    private void digestStart() {
        LentMargins m = new LentMargins();
        BigInteger all = hashOf(valuesOf(m, 0));
        check.same("of a new object", all.longValue(), m.digest());
        BigInteger without = hashOf(valuesOf(m, 0)).subtract(
            BigInteger.valueOf(43262).multiply(BigInteger.valueOf(31).pow(23)));
        check.same("its 23 values without the start", without.longValue(),
            m.digest() - BigInteger.valueOf(43262).multiply(BigInteger.valueOf(31).pow(23)).longValue());
    }

    @Sentence(promise = 24, says = "For each of the following values v, in this order, h becomes 31 * h + v (long "
        + "arithmetic, overflow wraps).")
    private void digestWraps() {
        LentMargins m = busy();
        BigInteger exact = hashOf(valuesOf(m, 4));
        check.holds("the exact number to need more than a long", exact.bitLength() > 200);
        check.same("what is left of it", exact.longValue(), m.digest());
        // A new object has 23 values, so that even its digest wraps around.
        check.holds("so does that of a new one", hashOf(valuesOf(new LentMargins(), 0)).bitLength() > 63);
    }

    @Sentence(promise = 24, says = "the number of states on the undo stack; whole() of 0 to 13; the shares of the "
        + "signs 0 to 7; for each word word() of 0 to 8; for each line line() of 0 to 11, then its bytes as they are "
        + "written; for each page page() of 0 to 5.")
    private void digestValues() {
        for (int states = 0; states <= 6; states++) {
            LentMargins m = new LentMargins();
            typeAll(m, "abc");
            for (int i = 0; i < states; i++) {
                m.insert(i, 3 * i, 2 + i, i % 2, 7 - i % 5);
            }
            check.same(states + " calls", hashOf(valuesOf(m, Math.min(4, states))).longValue(), m.digest());
        }
        LentMargins pages = of(20, "\"abcdi. aaaa i/ bb mmmm");
        pages.set(1, 2);
        pages.set(4, 3);
        check.same("with pages", hashOf(valuesOf(pages, 4)).longValue(), pages.digest());
        check.same("pages", 3, pages.whole(2));
    }

    @Sentence(promise = 24, says = "Returns the hash.")
    private void digestNumbers() {
        LentMargins m = new LentMargins();
        check.same("of a new object, below 0", -6936053048113003235L, m.digest());
        m.insert(0, 0, 1, NONE, 3);
        check.same("with the word a., above 0", 8523562209042452197L, m.digest());
    }
}
