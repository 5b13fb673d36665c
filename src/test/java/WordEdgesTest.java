import java.util.function.Supplier;

/** The edges of promises 1 to 7: a new object, and the calls that change words, settings and shares. */
public final class WordEdgesTest extends Cases {

    public static void main(String[] args) throws IllegalAccessException {
        new WordEdgesTest().runAll();
    }

    // ---- promise 1: a new object

    @Sentence(promise = 1, says = "Creates settings as at first")
    private void newSettings() {
        int[] settings = {60, 6, 3, 3, 2, 1};
        int[] shares = {50, 50, 50, 100, 100, 100, 50, 50};
        // Another object must leave nothing behind in this one.
        Cases.busy();
        LentMargins m = new LentMargins();
        for (int what = 0; what < 6; what++) {
            check.same("setting " + what, settings[what], m.whole(4 + what));
        }
        for (int sign = 0; sign < 8; sign++) {
            check.same("share " + sign, shares[sign], m.share(sign));
        }
    }

    @Sentence(promise = 1, says = "without words")
    private void newWithoutWords() {
        LentMargins m = new LentMargins();
        for (int what = 0; what < 4; what++) {
            check.same("whole " + what, 0, m.whole(what));
        }
        for (int what = 10; what < 13; what++) {
            check.same("whole " + what, 0, m.whole(what));
        }
        refuses("word 0", LentMargins::new, INDEX, n -> n.word(0, 0));
        refuses("line 0", LentMargins::new, INDEX, n -> n.line(0, 0));
        refuses("page 0", LentMargins::new, INDEX, n -> n.page(0, 0));
    }

    @Sentence(promise = 1, says = "with an empty text")
    private void newText() {
        check.same("length", 0, new LentMargins().whole(13));
        check.same("cleared", 0, new LentMargins().clearText());
        check.same("read", 0, new LentMargins().readWords());
        check.same("typed", 1, new LentMargins().type(97));
    }

    @Sentence(promise = 1, says = "and an empty undo stack.")
    private void newUndoStack() {
        refuses("undo", LentMargins::new, STATE, LentMargins::undo);
    }

    // ---- promise 2: insert

    /** Five words of 1 to 5 letters. */
    private static LentMargins five() {
        return of("a bb ccc dddd eeeee");
    }

    private void lettersAre(String what, LentMargins m, int... due) {
        check.same(what + ": words", due.length, m.whole(0));
        for (int word = 0; word < due.length && word < m.whole(0); word++) {
            check.same(what + ": letters of word " + word, due[word], m.word(word, 0));
        }
    }

    @Sentence(promise = 2, says = "Inserts a word ahead of another one, or behind all.")
    private void insertsAheadAndBehind() {
        int[][] due = {{9, 1, 2, 3, 4, 5}, {1, 9, 2, 3, 4, 5}, {1, 2, 9, 3, 4, 5}, {1, 2, 3, 9, 4, 5},
            {1, 2, 3, 4, 9, 5}, {1, 2, 3, 4, 5, 9}};
        for (int at = 0; at <= 5; at++) {
            LentMargins m = five();
            m.insert(at, 0, 9, 1, 6);
            lettersAre("at " + at, m, due[at]);
            check.same("its sign ahead", 1, m.word(at, 2));
            check.same("its sign behind", 6, m.word(at, 3));
        }
        LentMargins m = of("\"a! (bb)/ ccc");
        m.insert(1, 0, 9, NONE, NONE);
        int[][] signs = {{0, 7, 0}, {NONE, NONE, 0}, {1, 2, 1}, {NONE, NONE, 0}};
        for (int word = 0; word < 4; word++) {
            for (int what = 2; what <= 4; what++) {
                check.same("word " + word + " value " + what, signs[word][what - 2], m.word(word, what));
            }
        }
    }

    @Sentence(promise = 2, says = "It does not end a paragraph.")
    private void insertedWordEndsNone() {
        LentMargins m = of("a/ b/");
        for (int at = 2; at >= 0; at--) {
            m.insert(at, 0, 9, NONE, NONE);
            check.same("at " + at, 0, m.word(at, 4));
        }
        LentMargins again = of("a/");
        again.removeWord(0);
        again.insert(0, 0, 1, NONE, NONE);
        check.same("where one that did was removed", 0, again.word(0, 4));
    }

    @Sentence(promise = 2, says = "Undoable.")
    private void insertIsUndoable() {
        for (int at = 0; at <= 6; at += 3) {
            int place = at;
            undoable("at " + at, Cases::calm, m -> m.insert(place, 3, 12, 0, 7));
        }
        undoable("the first word", LentMargins::new, m -> m.insert(0, 0, 1, NONE, NONE));
    }

    @Sentence(promise = 2, says = "at: 0 to the number of words: its number then")
    private void insertAt() {
        check.same("without words", 1, new LentMargins().insert(0, 0, 1, NONE, NONE));
        check.same("least", 6, five().insert(0, 0, 1, NONE, NONE));
        check.same("greatest", 6, five().insert(5, 0, 1, NONE, NONE));
        LentMargins m = sixtyWords();
        m.removeWord(10);
        check.same("the last one of sixty", 60, m.insert(59, 0, 7, NONE, NONE));
        check.same("its number then", 7, m.word(59, 0));
    }

    private static String inserted(int first, int letters) {
        LentMargins m = new LentMargins();
        m.insert(0, first, letters, NONE, NONE);
        return written(m, 0);
    }

    @Sentence(promise = 2, says = "first: 0 to 25: its first letter, 0 for a; each next letter is the next one of the "
        + "alphabet, a behind z")
    private void insertFirst() {
        String[] due = {"a", "abcdefghijkl", "z", "za", "zabcdefghijk", "opqrstuvwxyz", "pqrstuvwxyza", "yz", "mn"};
        int[] first = {0, 0, 25, 25, 25, 14, 15, 24, 12};
        for (int i = 0; i < due.length; i++) {
            String got = inserted(first[i], due[i].length());
            check.holds("from " + first[i] + " " + got + "; to be " + due[i], due[i].equals(got));
        }
        LentMargins m = new LentMargins();
        m.insert(0, 25, 12, NONE, NONE);
        // z a b c d e f g h i j k: ten of 4 or, as f, i and j, of 2.
        check.same("width of the letters that wrap around", 9 * 4 + 3 * 2, m.word(0, 1));
        for (int value : new int[] {-1, 26, 27, LOWEST, HIGHEST}) {
            refuses("first " + value, Cases::busy, ARGUMENT, n -> n.insert(0, value, 1, NONE, NONE));
        }
    }

    @Sentence(promise = 2, says = "letters: 1 to 12")
    private void insertLetters() {
        for (int letters = 1; letters <= 12; letters++) {
            LentMargins m = new LentMargins();
            m.insert(0, 0, letters, NONE, NONE);
            check.same("letters", letters, m.word(0, 0));
        }
        for (int value : new int[] {0, 13, -1, LOWEST, HIGHEST}) {
            refuses("letters " + value, Cases::busy, ARGUMENT, n -> n.insert(0, 0, value, NONE, NONE));
        }
    }

    @Sentence(promise = 2, says = "ahead: sign ahead, 0 or 1, or NONE")
    private void insertAhead() {
        for (int ahead : new int[] {NONE, 0, 1}) {
            LentMargins m = new LentMargins();
            m.insert(0, 0, 1, ahead, 4);
            check.same("ahead", ahead, m.word(0, 2));
            check.same("behind", 4, m.word(0, 3));
        }
        for (int value : new int[] {-2, 2, 3, 7, 8, LOWEST, HIGHEST}) {
            refuses("ahead " + value, Cases::busy, ARGUMENT, n -> n.insert(0, 0, 1, value, NONE));
        }
    }

    @Sentence(promise = 2, says = "behind: sign behind, 0 or 2 to 7, or NONE")
    private void insertBehind() {
        for (int behind : new int[] {NONE, 0, 2, 3, 4, 5, 6, 7}) {
            LentMargins m = new LentMargins();
            m.insert(0, 0, 1, 1, behind);
            check.same("ahead", 1, m.word(0, 2));
            check.same("behind", behind, m.word(0, 3));
        }
        for (int value : new int[] {-2, 1, 8, 9, LOWEST, HIGHEST}) {
            refuses("behind " + value, Cases::busy, ARGUMENT, n -> n.insert(0, 0, 1, NONE, value));
        }
    }

    @Sentence(promise = 2, says = "Returns the number of words then.")
    private void insertReturns() {
        LentMargins m = new LentMargins();
        for (int words = 1; words <= 60; words++) {
            check.same("words", words, m.insert(words / 2, 0, 1, NONE, NONE));
        }
    }

    @Sentence(promise = 2, says = "Throws IndexOutOfBoundsException if at is out of range")
    private void insertAtRefused() {
        refusesEach("at", INDEX, new int[] {-1, 7, 8, LOWEST, HIGHEST}, (m, at) -> m.insert(at, 0, 1, NONE, NONE));
        refuses("at 1 of none", LentMargins::new, INDEX, m -> m.insert(1, 0, 1, NONE, NONE));
        refuses("at 61 of 60", Cases::sixtyWords, INDEX, m -> m.insert(61, 0, 1, NONE, NONE));
    }

    @Sentence(promise = 2, says = "Throws IllegalArgumentException if another argument is out of range")
    private void insertArgumentRefused() {
        refuses("first", LentMargins::new, ARGUMENT, m -> m.insert(0, 26, 1, NONE, NONE));
        refuses("letters", LentMargins::new, ARGUMENT, m -> m.insert(0, 0, 13, NONE, NONE));
        refuses("ahead", LentMargins::new, ARGUMENT, m -> m.insert(0, 0, 1, 2, NONE));
        refuses("behind", LentMargins::new, ARGUMENT, m -> m.insert(0, 0, 1, NONE, 1));
        refuses("all of them", LentMargins::new, ARGUMENT, m -> m.insert(0, -1, 0, -2, -2));
    }

    @Sentence(promise = 2, says = "Throws IllegalStateException if there are 60 words")
    private void insertRefusedWhenFull() {
        for (int at : new int[] {0, 30, 59, 60}) {
            refuses("at " + at, Cases::sixtyWords, STATE, m -> m.insert(at, 0, 1, NONE, NONE));
        }
        Supplier<LentMargins> fiftyNine = () -> {
            LentMargins m = sixtyWords();
            m.removeWord(0);
            return m;
        };
        check.same("with 59 it is taken", 60, fiftyNine.get().insert(59, 0, 1, NONE, NONE));
    }

    @Sentence(promise = 2, says = "If several exceptions of a method apply, the one that is listed first is thrown.")
    private void insertFirstListed() {
        refuses("at and another one", Cases::busy, INDEX, m -> m.insert(7, 26, 0, 5, 1));
        refuses("at, another one and 60 words", Cases::sixtyWords, INDEX, m -> m.insert(-1, 26, 0, 5, 1));
        refuses("at and 60 words", Cases::sixtyWords, INDEX, m -> m.insert(61, 0, 1, NONE, NONE));
        refuses("first and 60 words", Cases::sixtyWords, ARGUMENT, m -> m.insert(60, 26, 1, NONE, NONE));
        refuses("letters and 60 words", Cases::sixtyWords, ARGUMENT, m -> m.insert(0, 0, 0, NONE, NONE));
        refuses("ahead and 60 words", Cases::sixtyWords, ARGUMENT, m -> m.insert(0, 0, 1, 2, NONE));
        refuses("behind and 60 words", Cases::sixtyWords, ARGUMENT, m -> m.insert(0, 0, 1, NONE, 8));
    }

    // ---- promise 3: removeWord

    @Sentence(promise = 3, says = "Removes a word.")
    private void removes() {
        int[][] due = {{2, 3, 4, 5}, {1, 3, 4, 5}, {1, 2, 4, 5}, {1, 2, 3, 5}, {1, 2, 3, 4}};
        for (int word = 0; word < 5; word++) {
            LentMargins m = five();
            m.removeWord(word);
            lettersAre("without " + word, m, due[word]);
        }
        LentMargins m = of("\"a! (bb)/ ccc mi");
        m.removeWord(0);
        wordIs("all of the next word moves", m, 0, 2, 12, 1, 2, 1, 0, 0, 0, 0);
        wordIs("and of the one behind it", m, 1, 3, 12, NONE, NONE, 0, 1, 0, 0, 0);
        linesAre("letters", m, "(bb)", "ccc mi");
    }

    @Sentence(promise = 3, says = "(If it ended a paragraph, that goes on with the next one.)")
    private void paragraphGoesOn() {
        LentMargins m = of("a b/ c d/ e");
        m.removeWord(1);
        linesAre("with the next one", m, "a c d", "e");
        m.removeWord(2);
        linesAre("up to the end", m, "a c e");
        m.removeWord(2);
        linesAre("without the last one", m, "a c");
        check.same("the last one ends it anyway", 1, m.whole(3));
        check.same("but was not set to", 0, m.word(1, 4));
    }

    @Sentence(promise = 3, says = "Undoable.")
    private void removeIsUndoable() {
        for (int word = 0; word < 6; word++) {
            int which = word;
            undoable("word " + word, Cases::calm, m -> m.removeWord(which));
        }
        undoable("the only word", () -> of("\"ab!/"), m -> m.removeWord(0));
    }

    @Sentence(promise = 3, says = "word: number of a word")
    private void removeWhich() {
        check.same("least", 59, sixtyWords().removeWord(0));
        check.same("greatest", 59, sixtyWords().removeWord(59));
        check.same("the only one", 0, of("a").removeWord(0));
    }

    @Sentence(promise = 3, says = "Returns the number of words that are left.")
    private void removeReturns() {
        LentMargins m = sixtyWords();
        for (int left = 59; left >= 0; left--) {
            check.same("left", left, m.removeWord(left / 2));
        }
        check.same("lines then", 0, m.whole(1));
        check.same("pages then", 0, m.whole(2));
    }

    @Sentence(promise = 3, says = "Throws IndexOutOfBoundsException if there is no such word")
    private void removeRefused() {
        refusesEach("word", INDEX, new int[] {-1, 6, 7, LOWEST, HIGHEST}, LentMargins::removeWord);
        refuses("word 0 of none", LentMargins::new, INDEX, m -> m.removeWord(0));
        refuses("word 60 of 60", Cases::sixtyWords, INDEX, m -> m.removeWord(60));
    }

    // ---- promise 4: endParagraph

    @Sentence(promise = 4, says = "Sets whether a word ends a paragraph.")
    private void endsParagraph() {
        LentMargins m = five();
        m.set(0, 200);
        m.endParagraph(0, true);
        linesAre("the first word", m, "a", "bb ccc dddd eeeee");
        m.endParagraph(3, true);
        linesAre("another word", m, "a", "bb ccc dddd", "eeeee");
        m.endParagraph(0, false);
        linesAre("not the first word", m, "a bb ccc dddd", "eeeee");
        int[] due = {0, 0, 0, 1, 0};
        for (int word = 0; word < 5; word++) {
            check.same("set for word " + word, due[word], m.word(word, 4));
        }
    }

    @Sentence(promise = 4, says = "Undoable.")
    private void endParagraphIsUndoable() {
        for (int word = 0; word < 6; word++) {
            int which = word;
            undoable("to " + word, Cases::calm, m -> m.endParagraph(which, true));
            undoable("not to " + word, Cases::calm, m -> m.endParagraph(which, false));
        }
    }

    @Sentence(promise = 4, says = "word: number of a word")
    private void endParagraphWhich() {
        LentMargins m = sixtyWords();
        m.endParagraph(0, true);
        m.endParagraph(59, true);
        check.same("least", 1, m.word(0, 4));
        check.same("greatest", 1, m.word(59, 4));
        check.same("paragraphs", 2, m.whole(3));
    }

    @Sentence(promise = 4, says = "ends: whether it does")
    private void endsOrNot() {
        LentMargins m = of("a/ b");
        m.endParagraph(0, true);
        check.same("it does", 1, m.word(0, 4));
        m.endParagraph(0, false);
        check.same("it does not", 0, m.word(0, 4));
    }

    @Sentence(promise = 4, says = "Returns 1 if it did before, otherwise 0 (as it was set, also for the last word).")
    private void endParagraphReturns() {
        LentMargins m = of("a b/ c");
        check.same("it did not", 0, m.endParagraph(0, true));
        check.same("it did", 1, m.endParagraph(0, true));
        check.same("it did, and no more", 1, m.endParagraph(0, false));
        check.same("it did not again", 0, m.endParagraph(0, false));
        check.same("typed with a slash", 1, m.endParagraph(1, true));
        check.same("the last word was not set to", 0, m.endParagraph(2, false));
        check.same("nor now", 0, m.endParagraph(2, true));
        check.same("the last word was set to", 1, m.endParagraph(2, false));
    }

    @Sentence(promise = 4, says = "Throws IndexOutOfBoundsException if there is no such word")
    private void endParagraphRefused() {
        refusesEach("word", INDEX, new int[] {-1, 6, 7, LOWEST, HIGHEST}, (m, word) -> m.endParagraph(word, true));
        refusesEach("word", INDEX, new int[] {-1, 6}, (m, word) -> m.endParagraph(word, false));
        refuses("word 0 of none", LentMargins::new, INDEX, m -> m.endParagraph(0, true));
        refuses("word 60 of 60", Cases::sixtyWords, INDEX, m -> m.endParagraph(60, true));
    }

    // ---- promise 5: setSigns

    @Sentence(promise = 5, says = "Sets the signs of a word.")
    private void setsSigns() {
        LentMargins m = of("a \"b! c");
        m.setSigns(1, 1, 2);
        linesAre("both", m, "a (b) c");
        m.setSigns(1, NONE, 5);
        linesAre("one less", m, "a b- c");
        m.setSigns(1, NONE, NONE);
        linesAre("none", m, "a b c");
        m.setSigns(0, 0, NONE);
        m.setSigns(2, NONE, 0);
        linesAre("the first and the last word", m, "\"a b c\"");
        LentMargins full = of(20, "aaaa i");
        full.setSigns(1, 1, NONE);
        linesAre("the lines are set anew", full, "aaaa", "(i");
        full.setSigns(1, NONE, NONE);
        linesAre("and again", full, "aaaa i");
    }

    @Sentence(promise = 5, says = "Undoable.")
    private void setSignsIsUndoable() {
        undoable("other signs", Cases::calm, m -> m.setSigns(0, 1, 2));
        undoable("no signs", Cases::calm, m -> m.setSigns(3, NONE, NONE));
        undoable("the same signs", Cases::calm, m -> m.setSigns(0, 0, 3));
        undoable("none as before", Cases::calm, m -> m.setSigns(5, NONE, NONE));
    }

    @Sentence(promise = 5, says = "word: number of a word")
    private void setSignsWhich() {
        LentMargins m = sixtyWords();
        m.setSigns(0, 1, NONE);
        m.setSigns(59, NONE, 6);
        check.same("least", 1, m.word(0, 2));
        check.same("greatest", 6, m.word(59, 3));
        check.same("none but them", NONE, m.word(1, 2));
    }

    @Sentence(promise = 5, says = "ahead: 0 or 1, or NONE")
    private void setAhead() {
        LentMargins m = of("a.");
        for (int ahead : new int[] {0, 1, NONE}) {
            m.setSigns(0, ahead, 3);
            check.same("ahead", ahead, m.word(0, 2));
            check.same("behind", 3, m.word(0, 3));
        }
    }

    @Sentence(promise = 5, says = "behind: 0 or 2 to 7, or NONE")
    private void setBehind() {
        LentMargins m = of("(a");
        for (int behind : new int[] {0, 2, 3, 4, 5, 6, 7, NONE}) {
            m.setSigns(0, 1, behind);
            check.same("ahead", 1, m.word(0, 2));
            check.same("behind", behind, m.word(0, 3));
        }
    }

    @Sentence(promise = 5, says = "Returns its width then.")
    private void setSignsReturns() {
        check.same("least", 2, of("\"i\"").setSigns(0, NONE, NONE));
        check.same("greatest", 78, of("mmmmmmmmmmmm").setSigns(0, 0, 5));
        check.same("of the second word", 4 + 2 + 3, of("mm a").setSigns(1, 1, 0));
    }

    @Sentence(promise = 5, says = "Throws IndexOutOfBoundsException if there is no such word")
    private void setSignsWordRefused() {
        refusesEach("word", INDEX, new int[] {-1, 6, 7, LOWEST, HIGHEST}, (m, word) -> m.setSigns(word, 0, 0));
        refuses("word 0 of none", LentMargins::new, INDEX, m -> m.setSigns(0, NONE, NONE));
        refuses("word 60 of 60", Cases::sixtyWords, INDEX, m -> m.setSigns(60, NONE, NONE));
    }

    @Sentence(promise = 5, says = "Throws IllegalArgumentException if ahead or behind is out of range")
    private void setSignsRefused() {
        refusesEach("ahead", ARGUMENT, new int[] {-2, 2, 7, 8, LOWEST, HIGHEST}, (m, sign) -> m.setSigns(0, sign, 0));
        refusesEach("behind", ARGUMENT, new int[] {-2, 1, 8, 9, LOWEST, HIGHEST}, (m, sign) -> m.setSigns(0, 0, sign));
    }

    @Sentence(promise = 5, says = "If several exceptions of a method apply, the one that is listed first is thrown.")
    private void setSignsFirstListed() {
        refuses("word and ahead", Cases::busy, INDEX, m -> m.setSigns(6, 2, NONE));
        refuses("word and behind", Cases::busy, INDEX, m -> m.setSigns(-1, NONE, 1));
    }

    // ---- promise 6: set (the range of each setting stands in TermsEdgesTest)

    @Sentence(promise = 6, says = "Sets a setting.")
    private void setsOneSetting() {
        int[] atFirst = {60, 6, 3, 3, 2, 1};
        int[] values = {37, 11, 4, 5, 6, 0};
        for (int what = 0; what < 6; what++) {
            LentMargins m = new LentMargins();
            m.set(what, values[what]);
            for (int other = 0; other < 6; other++) {
                int due = other == what ? values[other] : atFirst[other];
                check.same("setting " + other + " after " + what, due, m.whole(4 + other));
            }
        }
        LentMargins m = of("aaaaa bbbbb");
        m.set(0, 20);
        linesAre("the lines are set anew", m, "aaaaa", "bbbbb");
    }

    @Sentence(promise = 6, says = "Undoable.")
    private void setIsUndoable() {
        int[] greatest = {200, 20, 10, 10, 10, 0};
        int[] same = {20, 6, 3, 3, 2, 1};
        for (int setting = 0; setting < 6; setting++) {
            int what = setting;
            undoable("another value of " + what, Cases::calm, m -> m.set(what, greatest[what]));
            undoable("the same value of " + what, Cases::calm, m -> m.set(what, same[what]));
        }
    }

    @Sentence(promise = 6, says = "what: 0 to 5")
    private void setWhat() {
        LentMargins m = new LentMargins();
        check.same("least", 60, m.set(0, 61));
        check.same("greatest", 1, m.set(5, 0));
        refusesEach("what", ARGUMENT, new int[] {-1, 6, 7, LOWEST, HIGHEST}, (n, what) -> n.set(what, 1));
    }

    @Sentence(promise = 6, says = "value: the new value, in its range")
    private void setValue() {
        // 21 is in the range of the measure only, 11 in that of the lines of a page as well, 1 in that of others.
        for (int what = 1; what < 6; what++) {
            int other = what;
            refuses("21 for " + what, Cases::busy, ARGUMENT, m -> m.set(other, 21));
        }
        for (int what = 2; what < 6; what++) {
            int other = what;
            refuses("11 for " + what, Cases::busy, ARGUMENT, m -> m.set(other, 11));
        }
        refuses("2 for 5", Cases::busy, ARGUMENT, m -> m.set(5, 2));
        refuses("2 for 0", Cases::busy, ARGUMENT, m -> m.set(0, 2));
        refuses("1 for 1", Cases::busy, ARGUMENT, m -> m.set(1, 1));
    }

    @Sentence(promise = 6, says = "Returns the previous value.")
    private void setReturns() {
        LentMargins m = new LentMargins();
        check.same("at first", 60, m.set(0, 200));
        check.same("the greatest", 200, m.set(0, 200));
        check.same("the same", 200, m.set(0, 20));
        check.same("the least", 20, m.set(0, 60));
    }

    @Sentence(promise = 6, says = "Throws IllegalArgumentException if what or value is out of range")
    private void setRefused() {
        refuses("both", Cases::busy, ARGUMENT, m -> m.set(6, -1));
        refuses("what", Cases::busy, ARGUMENT, m -> m.set(-1, 20));
        refuses("value", Cases::busy, ARGUMENT, m -> m.set(0, 201));
        refuses("on a new object", LentMargins::new, ARGUMENT, m -> m.set(0, 19));
    }

    // ---- promise 7: setShare

    @Sentence(promise = 7, says = "Sets the share of a sign that may hang.")
    private void setsShare() {
        LentMargins m = of(20, "aaaaa.");
        check.same("the full stop hangs", 2, m.line(0, 6));
        m.setShare(3, 99);
        check.same("and does not", 1, m.line(0, 9));
        m.setShare(3, 100);
        check.same("and does", 0, m.line(0, 9));
    }

    @Sentence(promise = 7, says = "Undoable.")
    private void setShareIsUndoable() {
        for (int sign = 0; sign < 8; sign++) {
            int which = sign;
            int same = sign >= 3 && sign <= 5 ? 100 : 50;
            undoable("another share of " + sign, Cases::calm, m -> m.setShare(which, 0));
            undoable("the same share of " + sign, Cases::calm, m -> m.setShare(which, same));
        }
    }

    @Sentence(promise = 7, says = "sign: 0 to 7")
    private void setShareSign() {
        LentMargins m = new LentMargins();
        check.same("least", 50, m.setShare(0, 1));
        check.same("greatest", 50, m.setShare(7, 2));
        check.same("least then", 1, m.share(0));
        check.same("greatest then", 2, m.share(7));
    }

    @Sentence(promise = 7, says = "share: 0 to 100")
    private void setShareShare() {
        LentMargins m = new LentMargins();
        for (int sign = 0; sign < 8; sign++) {
            m.setShare(sign, 0);
            check.same("least", 0, m.share(sign));
            m.setShare(sign, 100);
            check.same("greatest", 100, m.share(sign));
        }
    }

    @Sentence(promise = 7, says = "Returns the previous share.")
    private void setShareReturns() {
        LentMargins m = new LentMargins();
        check.same("at first", 100, m.setShare(5, 0));
        check.same("the least", 0, m.setShare(5, 100));
        check.same("the greatest", 100, m.setShare(5, 100));
        check.same("another sign", 50, m.setShare(6, 100));
    }

    @Sentence(promise = 7, says = "Throws IndexOutOfBoundsException if there is no such sign")
    private void setShareSignRefused() {
        refusesEach("sign", INDEX, new int[] {-1, 8, 9, LOWEST, HIGHEST}, (m, sign) -> m.setShare(sign, 50));
    }

    @Sentence(promise = 7, says = "Throws IllegalArgumentException if share is out of range")
    private void setShareRefused() {
        refusesEach("share", ARGUMENT, new int[] {-1, 101, LOWEST, HIGHEST}, (m, share) -> m.setShare(0, share));
        refusesEach("share", ARGUMENT, new int[] {-1, 101}, (m, share) -> m.setShare(7, share));
    }

    @Sentence(promise = 7, says = "If several exceptions of a method apply, the one that is listed first is thrown.")
    private void setShareFirstListed() {
        refuses("sign and share", Cases::busy, INDEX, m -> m.setShare(8, 101));
        refuses("sign and share", Cases::busy, INDEX, m -> m.setShare(-1, -1));
    }
}
