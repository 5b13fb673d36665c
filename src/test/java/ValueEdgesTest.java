/** The edges of promises 8 to 14: the values of words, lines, pages and the whole. */
public final class ValueEdgesTest extends Cases {

    public static void main(String[] args) throws IllegalAccessException {
        new ValueEdgesTest().runAll();
    }

    /** Four lines: "abcdi. | aaa i, | mmmm | (bb) a. The first one lends 3, the third one is too wide. */
    private static LentMargins lines() {
        return of(20, "\"abcdi. aaa i, mmmm/ (bb) a");
    }

    // ---- promise 8: word

    @Sentence(promise = 8, says = "Returns a value of a word.")
    private void wordValues() {
        LentMargins m = lines();
        wordIs("all but its number", m, 0, 5, 23, 0, 3, 0, 0, 0, 0, -1);
        wordIs("all but its number", m, 1, 3, 12, NONE, NONE, 0, 1, 0, 0, 0);
        wordIs("all but its number", m, 2, 1, 4, NONE, 4, 0, 1, 1, 0, 14);
        wordIs("all but its number", m, 3, 4, 24, NONE, NONE, 1, 2, 0, 0, 0);
        wordIs("all but its number", m, 4, 2, 12, 1, 2, 0, 3, 0, 0, 0);
        wordIs("all but its number", m, 5, 1, 4, NONE, NONE, 0, 3, 1, 0, 14);
        changesNothing("it", Cases::busy, n -> n.word(0, 8));
    }

    @Sentence(promise = 8, says = "word: number of a word")
    private void wordWhich() {
        check.same("least", 1, sixtyWords().word(0, 0));
        check.same("greatest", 12, sixtyWords().word(59, 0));
    }

    @Sentence(promise = 8, says = "0 letters, 1 width with its signs")
    private void wordLettersAndWidth() {
        check.same("least letters", 1, of("i").word(0, 0));
        check.same("least width", 2, of("i").word(0, 1));
        check.same("greatest letters", 12, of("\"mwmwmwmwmwmw-").word(0, 0));
        check.same("greatest width", 78, of("\"mwmwmwmwmwmw-").word(0, 1));
        check.same("letters without its signs", 1, of("(a)").word(0, 0));
        check.same("width with its sign ahead", 6, of("(a").word(0, 1));
        check.same("width with its sign behind", 6, of("a)").word(0, 1));
    }

    @Sentence(promise = 8, says = "2 sign ahead and 3 sign behind (NONE without one)")
    private void wordSigns() {
        LentMargins m = of("a \"b (c d\" e! \"f\"");
        int[][] due = {{NONE, NONE}, {0, NONE}, {1, NONE}, {NONE, 0}, {NONE, 7}, {0, 0}};
        for (int word = 0; word < 6; word++) {
            check.same("ahead of " + word, due[word][0], m.word(word, 2));
            check.same("behind " + word, due[word][1], m.word(word, 3));
        }
    }

    @Sentence(promise = 8, says = "4 1 if it was set to end a paragraph or 0 if not")
    private void wordWasSetToEnd() {
        LentMargins m = of("a b/ c");
        check.same("not set", 0, m.word(0, 4));
        check.same("set", 1, m.word(1, 4));
        check.same("the last one, not set", 0, m.word(2, 4));
        m.endParagraph(2, true);
        check.same("the last one, set", 1, m.word(2, 4));
    }

    @Sentence(promise = 8, says = "5 its line, 6 its place in the line, from 0, 7 its page")
    private void wordPlaces() {
        LentMargins m = of(20, "a b c a b c a b c");
        m.set(1, 2);
        m.set(5, 0);
        linesAre("lines", m, "a b c", "a b c", "a b c");
        for (int word = 0; word < 9; word++) {
            check.same("line of " + word, word / 3, m.word(word, 5));
            check.same("place of " + word, word % 3, m.word(word, 6));
            check.same("page of " + word, word / 6, m.word(word, 7));
        }
        LentMargins most = oneWordLines(60);
        most.set(1, 2);
        check.same("greatest line", 59, most.word(59, 5));
        check.same("greatest page", 29, most.word(59, 7));
        LentMargins one = of(200, "i ".repeat(50));
        check.same("greatest place", 49, one.word(49, 6));
        LentMargins back = of(20, "aaaaa bbbbb ccccc/");
        back.set(1, 2);
        check.same("page of a word that was taken back", 1, back.word(1, 7));
    }

    @Sentence(promise = 8, says = "8 the place of its left edge in the line, counted from the left edge of the "
        + "measure: minus what the left margin lends, plus all that is ahead of it (with its sign) in the line")
    private void wordLeftEdge() {
        LentMargins m = of(20, "\"aaa \"j- mi");
        m.setShare(0, 100);
        // 25 wide, which needs 5: 3 from the right and 2 from the left.
        check.same("minus 2", -2, m.word(0, 8));
        check.same("minus 2, plus 15 and a space", 15, m.word(1, 8));
        check.same("the next line begins anew", 0, m.word(2, 8));
        m.set(3, 2);
        check.same("3 from the left", -3, m.word(0, 8));
        check.same("of two words", 14, m.word(1, 8));
        LentMargins right = of(20, "aaaaa.");
        check.same("what the right margin lends does not count", 0, right.word(0, 8));
        LentMargins wide = of(20, "mmmm. (a");
        check.same("too wide, so nothing is lent", 0, of(20, "\"mmmm. a").word(0, 8));
        check.same("with its own sign", 0, wide.word(1, 8));
        LentMargins far = of(200, "i ".repeat(50));
        check.same("greatest", 49 * 4, far.word(49, 8));
    }

    @Sentence(promise = 8, says = "Returns that value (2 and 3 may be NONE).")
    private void wordReturns() {
        check.same("2", NONE, of("a").word(0, 2));
        check.same("3", NONE, of("a").word(0, 3));
        check.same("8 may be as little, but is a place", -1, of(22, "\"aaaaa").word(0, 8));
    }

    @Sentence(promise = 8, says = "Throws IndexOutOfBoundsException if there is no such word")
    private void wordRefused() {
        for (int what = 0; what < 9; what++) {
            int value = what;
            refusesEach("value " + what + " of word", INDEX, new int[] {-1, 6}, (m, word) -> m.word(word, value));
        }
        refusesEach("word", INDEX, new int[] {7, 59, 60, LOWEST, HIGHEST}, (m, word) -> m.word(word, 0));
        refuses("word 0 of none", LentMargins::new, INDEX, m -> m.word(0, 0));
        refuses("word 60 of 60", Cases::sixtyWords, INDEX, m -> m.word(60, 0));
    }

    @Sentence(promise = 8, says = "Throws IllegalArgumentException if what is out of range")
    private void wordWhatRefused() {
        refusesEach("what", ARGUMENT, new int[] {-1, 9, 10, LOWEST, HIGHEST}, (m, what) -> m.word(0, what));
        refusesEach("what", ARGUMENT, new int[] {-1, 9}, (m, what) -> m.word(5, what));
    }

    @Sentence(promise = 8, says = "If several exceptions of a method apply, the one that is listed first is thrown.")
    private void wordFirstListed() {
        refuses("both", Cases::busy, INDEX, m -> m.word(6, 9));
        refuses("both", LentMargins::new, INDEX, m -> m.word(0, -1));
    }

    // ---- promise 9: line

    @Sentence(promise = 9, says = "Returns a value of a line.")
    private void lineValues() {
        LentMargins m = lines();
        lineIs("it lends", m, 0, 0, 0, 1, 23, 20, 1, 2, 0, 3, 0, 0, 0);
        lineIs("it pays", m, 1, 0, 1, 2, 18, 18, 0, 0, 2, 1, 0, 0, 0);
        lineIs("it is too wide", m, 2, 0, 3, 1, 24, 19, 0, 0, 1, 0, 1, 1, 0);
        lineIs("it is the last one", m, 3, 0, 4, 2, 18, 20, 0, 0, 0, 0, 0, 1, 2);
        changesNothing("it", Cases::busy, n -> n.line(0, 11));
    }

    @Sentence(promise = 9, says = "line: number of a line, from 0 through all pages")
    private void lineWhich() {
        LentMargins m = oneWordLines(60);
        m.set(1, 2);
        check.same("least", 0, m.line(0, 1));
        check.same("greatest", 59, m.line(59, 1));
        for (int line = 0; line < 60; line++) {
            check.same("page of line " + line, line / 2, m.line(line, 0));
        }
    }

    @Sentence(promise = 9, says = "0 its page, 1 its first word, 2 number of its words, 3 natural width, 4 its own "
        + "measure")
    private void linePlaceAndWidths() {
        LentMargins m = oneWordLines(21);
        m.set(1, 20);
        check.same("page of the last line that stays", 0, m.line(18, 0));
        check.same("page of the line that was taken back", 1, m.line(19, 0));
        LentMargins all = of(200, "i ".repeat(50));
        check.same("first word", 0, all.line(0, 1));
        check.same("words", 50, all.line(0, 2));
        check.same("natural width", 198, all.line(0, 3));
        check.same("own measure", 200, all.line(0, 4));
        check.same("a natural width above the measure", 78, of(20, "\"mmmmmmmmmmmm\"").line(0, 3));
    }

    @Sentence(promise = 9, says = "5 what the left margin lends, 6 what the right margin lends, 7 what it pays, 8 debt "
        + "behind it")
    private void lineLentAndPaid() {
        LentMargins most = of(20, "\"aaaaa- \"aaai- a");
        most.setShare(0, 100);
        most.set(4, 10);
        lineIs("all that signs can lend", most, 0, 0, 0, 1, 26, 20, 3, 3, 0, 6, 0, 0, 0);
        lineIs("it is paid, and all of it is lent anew", most, 1, 0, 1, 1, 20, 14, 3, 3, 6, 6, 0, 0, 0);
        lineIs("it is paid", most, 2, 0, 2, 1, 4, 14, 0, 0, 6, 0, 0, 1, 10);
    }

    @Sentence(promise = 9, says = "9 1 if it is too wide or 0 if not")
    private void lineTooWide() {
        check.same("just as wide as the measure", 0, of(20, "aaaaa").line(0, 9));
        check.same("wider by 2", 1, of(20, "aaaaai").line(0, 9));
        check.same("wider by 2 that are lent", 0, of(20, "aaaaa.").line(0, 9));
    }

    @Sentence(promise = 9, says = "10 1 if it ends a paragraph or 0 if not")
    private void lineEndsAParagraph() {
        LentMargins m = of(20, "aaaaa bbbbb/ ccccc ddddd");
        int[] due = {0, 1, 0, 1};
        for (int line = 0; line < 4; line++) {
            check.same("line " + line, due[line], m.line(line, 10));
        }
        check.same("a line that is too wide", 1, of(20, "mmmm/ a").line(0, 10));
    }

    @Sentence(promise = 9, says = "11 empty width: its own measure plus what is lent minus its natural width (0 if it "
        + "is too wide)")
    private void lineEmptyWidth() {
        check.same("greatest", 198, of(200, "i").line(0, 11));
        check.same("none", 0, of(20, "aaaaa").line(0, 11));
        check.same("none when lent to", 0, of(20, "aaaaa.").line(0, 11));
        check.same("too wide", 0, of(20, "mmmm").line(0, 11));
        check.same("of its own measure, without what it pays", 18 - 16, of(20, "\"abcdi. aaaa aaaa").line(1, 11));
    }

    @Sentence(promise = 9, says = "Returns that value.")
    private void lineReturns() {
        LentMargins m = oneWordLines(24);
        for (int line = 0; line < 24; line++) {
            lineIs("each of twenty-four", m, line, line / 6, line, 1, 20, 20, 0, 0, 0, 0, 0, line == 23 ? 1 : 0, 0);
        }
        m.set(0, 42);
        check.same("after a change", 42, m.line(11, 3));
        m.undo();
        check.same("after it was undone", 20, m.line(11, 3));
    }

    @Sentence(promise = 9, says = "Throws IndexOutOfBoundsException if there is no such line")
    private void lineRefused() {
        int lines = busy().whole(1);
        for (int what = 0; what < 12; what++) {
            int value = what;
            refusesEach("value " + what + " of line", INDEX, new int[] {-1, lines}, (m, line) -> m.line(line, value));
        }
        refusesEach("line", INDEX, new int[] {lines + 1, 59, 60, LOWEST, HIGHEST}, (m, line) -> m.line(line, 0));
        refuses("line 0 of none", LentMargins::new, INDEX, m -> m.line(0, 0));
        refuses("line 60 of 60", () -> oneWordLines(60), INDEX, m -> m.line(60, 0));
        refuses("line 1 of 1, which two words have", () -> of("a b"), INDEX, m -> m.line(1, 0));
    }

    @Sentence(promise = 9, says = "Throws IllegalArgumentException if what is out of range")
    private void lineWhatRefused() {
        refusesEach("what", ARGUMENT, new int[] {-1, 12, 13, LOWEST, HIGHEST}, (m, what) -> m.line(0, what));
        refusesEach("what", ARGUMENT, new int[] {-1, 12}, (m, what) -> m.line(m.whole(1) - 1, what));
    }

    @Sentence(promise = 9, says = "If several exceptions of a method apply, the one that is listed first is thrown.")
    private void lineFirstListed() {
        refuses("both", Cases::busy, INDEX, m -> m.line(-1, 12));
        refuses("both", LentMargins::new, INDEX, m -> m.line(0, -1));
    }

    // ---- promise 10: page

    /** Two pages of two lines: the first one lends 3 and pays 3, its second line was taken back. */
    private static LentMargins pages() {
        LentMargins m = of(20, "\"abcdi. aaai aiij/ cc");
        m.set(1, 2);
        m.set(4, 3);
        return m;
    }

    @Sentence(promise = 10, says = "Returns a value of a page.")
    private void pageValues() {
        pageIs("page 0", pages(), 0, 0, 1, 3, 0, 3, 1);
        pageIs("page 1", pages(), 1, 1, 2, 0, 0, 0, 0);
        pageIs("page 2", pages(), 2, 3, 1, 0, 0, 0, 0);
        changesNothing("it", Cases::busy, n -> n.page(0, 4));
    }

    @Sentence(promise = 10, says = "page: number of a page, from 0")
    private void pageWhich() {
        LentMargins m = oneWordLines(60);
        m.set(1, 2);
        check.same("least", 0, m.page(0, 0));
        check.same("greatest", 58, m.page(29, 0));
        check.same("the only one", 0, of("a").page(0, 0));
    }

    @Sentence(promise = 10, says = "(without a line that was taken back) 0 its first line, 1 number of its lines")
    private void pageLines() {
        LentMargins m = oneWordLines(21);
        m.set(1, 20);
        pageIs("it was taken back", m, 0, 0, 19, 0, 0, 0, 1);
        pageIs("and begins the next page", m, 1, 19, 2, 0, 0, 0, 0);
        m.set(5, 0);
        pageIs("it was not", m, 0, 0, 20, 0, 0, 0, 0);
        pageIs("the last page has one line", m, 1, 20, 1, 0, 0, 0, 0);
    }

    @Sentence(promise = 10, says = "2 sum of what is lent on it, 3 sum of what its lines pay")
    private void pageSums() {
        LentMargins m = of(20, "\"abcdi. aaaa \"abcdi. aaaa aaaa");
        m.set(4, 3);
        pageIs("lent twice, by both margins", m, 0, 0, 5, 6, 6, 0, 0);
        LentMargins back = pages();
        check.same("without what a line that was taken back pays", 0, back.page(0, 3));
        back.set(5, 0);
        check.same("with it", 3, back.page(0, 3));
        pageIs("nothing is lent or paid on it", back, 1, 2, 2, 0, 0, 0, 0);
    }

    @Sentence(promise = 10, says = "4 debt at its end, which its empty lines pay")
    private void pageDebt() {
        check.same("none", 0, of("a").page(0, 4));
        check.same("behind its only line", 3, of(20, "\"abcdi.").page(0, 4));
        check.same("behind the line that stays", 3, pages().page(0, 4));
        check.same("of a full page none", 0, oneWordLines(6).page(0, 4));
    }

    @Sentence(promise = 10, says = "5 1 if a line of it was taken back or 0 if not")
    private void pageTakenBack() {
        LentMargins m = pages();
        int[] due = {1, 0, 0};
        for (int page = 0; page < 3; page++) {
            check.same("page " + page, due[page], m.page(page, 5));
        }
        m.set(5, 0);
        check.same("widows allowed", 0, m.page(0, 5));
    }

    @Sentence(promise = 10, says = "Returns that value.")
    private void pageReturns() {
        LentMargins m = oneWordLines(60);
        m.set(1, 2);
        for (int page = 0; page < 30; page++) {
            pageIs("each of thirty", m, page, 2 * page, 2, 0, 0, 0, 0);
        }
        m.set(1, 20);
        pageIs("after a change", m, 2, 40, 20, 0, 0, 0, 0);
        m.undo();
        pageIs("after it was undone", m, 2, 4, 2, 0, 0, 0, 0);
    }

    @Sentence(promise = 10, says = "Throws IndexOutOfBoundsException if there is no such page")
    private void pageRefused() {
        int pages = busy().whole(2);
        for (int what = 0; what < 6; what++) {
            int value = what;
            refusesEach("value " + what + " of page", INDEX, new int[] {-1, pages}, (m, page) -> m.page(page, value));
        }
        refusesEach("page", INDEX, new int[] {pages + 1, 59, 60, LOWEST, HIGHEST}, (m, page) -> m.page(page, 0));
        refuses("page 0 of none", LentMargins::new, INDEX, m -> m.page(0, 0));
        refuses("page 1 behind a full one", () -> oneWordLines(6), INDEX, m -> m.page(1, 0));
        check.same("page 1 with a line more", 1, oneWordLines(7).page(0, 5));
    }

    @Sentence(promise = 10, says = "Throws IllegalArgumentException if what is out of range")
    private void pageWhatRefused() {
        refusesEach("what", ARGUMENT, new int[] {-1, 6, 7, LOWEST, HIGHEST}, (m, what) -> m.page(0, what));
        refusesEach("what", ARGUMENT, new int[] {-1, 6}, (m, what) -> m.page(m.whole(2) - 1, what));
    }

    @Sentence(promise = 10, says = "If several exceptions of a method apply, the one that is listed first is thrown.")
    private void pageFirstListed() {
        refuses("both", Cases::busy, INDEX, m -> m.page(-1, 6));
        refuses("both", LentMargins::new, INDEX, m -> m.page(0, -1));
    }

    // ---- promise 11: whole

    @Sentence(promise = 11, says = "Returns a value of the whole.")
    private void wholeValues() {
        LentMargins m = lines();
        typeAll(m, "a/b");
        wholeIs("lines", m, 6, 4, 1, 2, 20, 6, 3, 3, 2, 1, 1, 1, 3, 3);
        changesNothing("it", Cases::busy, n -> n.whole(12));
    }

    @Sentence(promise = 11, says = "0 words, 1 lines, 2 pages")
    private void wholeCounts() {
        wholeIs("none", new LentMargins(), 0, 0, 0, 0, 60, 6, 3, 3, 2, 1, 0, 0, 0, 0);
        LentMargins m = oneWordLines(60);
        m.set(1, 2);
        wholeIs("most", m, 60, 60, 30, 1, 20, 2, 3, 3, 2, 1, 0, 0, 0, 0);
        LentMargins all = of(20, "a/ ".repeat(60));
        wholeIs("with paragraphs", all, 60, 60, 10, 60, 20, 6, 3, 3, 2, 1, 0, 0, 0, 0);
    }

    @Sentence(promise = 11, says = "3 words that end a paragraph (the last one of all included)")
    private void wholeParagraphs() {
        check.same("no word", 0, new LentMargins().whole(3));
        check.same("one word", 1, of("a").whole(3));
        check.same("one word, set to", 1, of("a/").whole(3));
        check.same("the first of two", 2, of("a/ b").whole(3));
        check.same("the last of two", 1, of("a b/").whole(3));
        check.same("all of sixty", 60, of("a/ ".repeat(60)).whole(3));
    }

    @Sentence(promise = 11, says = "4 to 9 the settings 0 to 5")
    private void wholeSettings() {
        LentMargins m = new LentMargins();
        int[] values = {123, 19, 8, 9, 7, 0};
        for (int what = 0; what < 6; what++) {
            m.set(what, values[what]);
        }
        wholeIs("all of them", m, 0, 0, 0, 0, 123, 19, 8, 9, 7, 0, 0, 0, 0, 0);
    }

    @Sentence(promise = 11, says = "10 lines that lend, 11 lines that are too wide, 12 sum of all that is lent")
    private void wholeLentAndTooWide() {
        LentMargins m = of(20, "\"aaaai aaaaa. \"abcdi. mmmm mmmm mmmm");
        m.set(4, 10);
        // Lends 1 from the left; pays 1 and so is too wide by 3; lends 3; then three that are too wide.
        wholeIs("both", m, 6, 6, 1, 1, 20, 6, 3, 3, 10, 1, 2, 4, 4, 0);
        m.setSigns(1, NONE, 5);
        m.set(3, 10);
        check.same("a hyphen lends no more", 4, m.whole(11));
        LentMargins gone = of(20, "aaaaa/ aaaaa. \"mmmm");
        gone.removeWord(2);
        check.same("one lends", 1, gone.whole(10));
        check.same("none is too wide any more", 0, gone.whole(11));
        gone.removeWord(1);
        check.same("none lends any more", 0, gone.whole(10));
        check.same("nothing is lent any more", 0, gone.whole(12));
        LentMargins none = of("a");
        check.same("no line lends", 0, none.whole(10));
        check.same("no line is too wide", 0, none.whole(11));
        check.same("nothing is lent", 0, none.whole(12));
    }

    @Sentence(promise = 11, says = "13 length of the text")
    private void wholeTextLength() {
        LentMargins m = new LentMargins();
        check.same("empty", 0, m.whole(13));
        for (int length = 1; length <= 200; length++) {
            m.type(0);
            check.same("length", length, m.whole(13));
        }
        m.clearText();
        check.same("emptied", 0, m.whole(13));
    }

    @Sentence(promise = 11, says = "Returns that value.")
    private void wholeReturns() {
        LentMargins m = oneWordLines(7);
        wholeIs("seven lines", m, 7, 7, 2, 1, 20, 6, 3, 3, 2, 1, 0, 0, 0, 0);
        m.removeWord(6);
        wholeIs("after a change", m, 6, 6, 1, 1, 20, 6, 3, 3, 2, 1, 0, 0, 0, 0);
        m.undo();
        wholeIs("after it was undone", m, 7, 7, 2, 1, 20, 6, 3, 3, 2, 1, 0, 0, 0, 0);
    }

    @Sentence(promise = 11, says = "Throws IllegalArgumentException if what is out of range")
    private void wholeRefused() {
        refusesEach("what", ARGUMENT, new int[] {-1, 14, 15, LOWEST, HIGHEST}, LentMargins::whole);
        refuses("what 14 of a new object", LentMargins::new, ARGUMENT, m -> m.whole(14));
    }

    // ---- promise 12: share

    @Sentence(promise = 12, says = "Returns the share of a sign.")
    private void shareOfASign() {
        LentMargins m = new LentMargins();
        for (int sign = 0; sign < 8; sign++) {
            m.setShare(sign, 10 + sign);
        }
        for (int sign = 0; sign < 8; sign++) {
            check.same("share", 10 + sign, m.share(sign));
        }
        changesNothing("it", Cases::busy, n -> n.share(7));
    }

    @Sentence(promise = 12, says = "sign: 0 to 7")
    private void shareSign() {
        check.same("least", 50, new LentMargins().share(0));
        check.same("greatest", 50, new LentMargins().share(7));
    }

    @Sentence(promise = 12, says = "Returns the share.")
    private void shareReturns() {
        LentMargins m = new LentMargins();
        m.setShare(3, 0);
        check.same("least", 0, m.share(3));
        m.setShare(3, 100);
        check.same("greatest", 100, m.share(3));
    }

    @Sentence(promise = 12, says = "Throws IndexOutOfBoundsException if there is no such sign")
    private void shareRefused() {
        refusesEach("sign", INDEX, new int[] {-1, 8, 9, LOWEST, HIGHEST}, LentMargins::share);
    }

    // ---- promises 13 and 14: unevenness and meanEmpty

    @Sentence(promise = 13, says = "Returns the unevenness: the sum of the squares of the empty widths of all lines "
        + "that do not end a paragraph.")
    private void unevennessOfLines() {
        // Empty widths 4, 8 (ends), 0, 4, 16 (ends).
        LentMargins m = of(20, "aaaa bbb/ ccccc dddd e");
        check.same("16 and 0 and 16", 32, m.unevenness());
        m.endParagraph(0, true);
        check.same("without the first one", 16, m.unevenness());
        check.same("without words", 0, new LentMargins().unevenness());
        check.same("the only line", 0, of(200, "i").unevenness());
        check.same("a line that is too wide", 0, of(20, "mmmmmm a").unevenness());
        changesNothing("it", Cases::busy, LentMargins::unevenness);
    }

    @Sentence(promise = 13, says = "Returns the sum.")
    private void unevennessIsASum() {
        LentMargins m = new LentMargins();
        m.set(0, 43);
        for (int i = 0; i < 60; i++) {
            m.insert(i, 8, i % 2 == 0 ? 1 : 12, NONE, NONE);
        }
        // i is 2 wide, ijklmnopqrst is 42; the last line ends the paragraph.
        check.same("of sixty lines", 30 * 41 * 41 + 29, m.unevenness());
        LentMargins fewer = of(20, "aaaaa aaai aaaaa");
        check.same("of two of three lines", 36, fewer.unevenness());
        fewer.set(0, 200);
        check.same("of none of one line", 0, fewer.unevenness());
    }

    @Sentence(promise = 14, says = "Returns the mean empty width of all lines.")
    private void meanOfAllLines() {
        // Empty widths 4, 8 (ends), 0, 4, 16 (ends): they count too.
        check.sameDouble("mean", 32.0 / 5.0, of(20, "aaaa bbb/ ccccc dddd e").meanEmpty());
        check.sameDouble("one line", 198.0, of(200, "i").meanEmpty());
        check.sameDouble("a line that is too wide counts with 0", 8.0, of(20, "mmmmmm a").meanEmpty());
        check.sameDouble("only such a line", 0.0, of(20, "mmmmmm").meanEmpty());
        changesNothing("it", Cases::busy, LentMargins::meanEmpty);
    }

    @Sentence(promise = 14, says = "Returns the sum of the empty widths, converted to double, divided by the number of "
        + "lines, converted to double;")
    private void meanIsNotCut() {
        check.sameDouble("a third", 1.0 / 3.0, of(20, "aaaaa aaaaa aaaa-").meanEmpty());
        check.sameDouble("two thirds", 2.0 / 3.0, of(20, "aaaai aaaaa aaaaa").meanEmpty());
        check.sameDouble("five thirds", 5.0 / 3.0, of(21, "aaaai aaaaa aaaaa").meanEmpty());
        check.sameDouble("five halves", 2.5, of(20, "aaaaa aaa-").meanEmpty());
    }

    @Sentence(promise = 14, says = "0.0 without lines.")
    private void meanWithoutLines() {
        check.sameDouble("new", 0.0, new LentMargins().meanEmpty());
        check.holds("to be plus 0.0", 1.0 / new LentMargins().meanEmpty() > 0);
        LentMargins m = of("a");
        m.removeWord(0);
        check.sameDouble("after the last word", 0.0, m.meanEmpty());
    }
}
