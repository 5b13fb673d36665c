import java.util.Arrays;

/** The edges that "Terms" names: words, signs, settings, lines and pages. One test for each sentence. */
public final class TermsEdgesTest extends Cases {

    public static void main(String[] args) throws IllegalAccessException {
        new TermsEdgesTest().runAll();
    }

    // ---- words and signs

    @Sentence(promise = 7, says = "a / b cuts towards 0")
    private void overhangIsCut() {
        for (int share = 0; share <= 100; share++) {
            int ofTwo = share < 50 ? 0 : share < 100 ? 1 : 2;
            int ofThree = share < 34 ? 0 : share < 67 ? 1 : share < 100 ? 2 : 3;
            check.same("3 wide, " + share + " percent", ofThree, overhang(5, share));
            check.same("2 wide, " + share + " percent", ofTwo, overhang(3, share));
        }
    }

    /** The greatest need that a sign lends to a word of the width 20. */
    private static int overhang(int sign, int share) {
        LentMargins m = new LentMargins();
        m.insert(0, 0, 5, sign < 2 ? sign : NONE, sign < 2 ? NONE : sign);
        for (int what = 2; what <= 4; what++) {
            m.set(what, 10);
        }
        m.setShare(sign, share);
        int overhang = 0;
        for (int need = 1; need <= m.word(0, 1) - 20; need++) {
            m.set(0, m.word(0, 1) - need);
            overhang = m.line(0, 9) == 0 ? need : overhang;
        }
        return overhang;
    }

    @Sentence(promise = 7, says = "its overhang is width * share / 100")
    private void overhangOfEachSign() {
        int[] atFifty = {1, 1, 1, 1, 1, 1, 1, 1};
        int[] atAll = {3, 2, 2, 2, 2, 3, 2, 2};
        for (int sign = 0; sign < 8; sign++) {
            check.same("sign " + sign + ", nothing", 0, overhang(sign, 0));
            check.same("sign " + sign + ", 33 percent", 0, overhang(sign, 33));
            check.same("sign " + sign + ", half", atFifty[sign], overhang(sign, 50));
            check.same("sign " + sign + ", 99 percent", atAll[sign] - 1, overhang(sign, 99));
            check.same("sign " + sign + ", all", atAll[sign], overhang(sign, 100));
        }
    }

    @Sentence(promise = 7, says = "Each sign has a share that may hang (0 to 100 percent;")
    private void eachSignHasItsOwnShare() {
        for (int sign = 0; sign < 8; sign++) {
            LentMargins m = new LentMargins();
            m.setShare(sign, 0);
            m.setShare(sign, 77);
            for (int other = 0; other < 8; other++) {
                int first = other >= 3 && other <= 5 ? 100 : 50;
                check.same("share of " + other + " after that of " + sign, other == sign ? 77 : first, m.share(other));
            }
        }
    }

    @Sentence(promise = 12, says = "100 for the signs 3, 4 and 5, 50 for all others at first)")
    private void sharesAtFirst() {
        int[] due = {50, 50, 50, 100, 100, 100, 50, 50};
        for (int sign = 0; sign < 8; sign++) {
            check.same("share of " + sign, due[sign], new LentMargins().share(sign));
        }
    }

    @Sentence(promise = 2, says = "There are at most 60 words, numbered from 0 in their order.")
    private void sixtyWordsAreNumbered() {
        LentMargins m = sixtyWords();
        check.same("words", 60, m.whole(0));
        for (int word = 0; word < 60; word++) {
            check.same("letters of word " + word, 1 + word % 12, m.word(word, 0));
        }
        refuses("the word 60 of 60", Cases::sixtyWords, INDEX, n -> n.word(60, 0));
        refuses("one word more", Cases::sixtyWords, STATE, n -> n.insert(60, 0, 1, NONE, NONE));
    }

    @Sentence(promise = 2, says = "A word has 1 to 12 letters a to z")
    private void lettersOfAWord() {
        for (int first = 0; first < 26; first++) {
            LentMargins m = new LentMargins();
            m.insert(0, first, 1, NONE, NONE);
            linesAre("one letter", m, "" + (char) ('a' + first));
        }
        LentMargins m = new LentMargins();
        m.insert(0, 0, 12, NONE, NONE);
        m.insert(1, 14, 12, NONE, NONE);
        linesAre("twelve letters", m, "abcdefghijkl", "opqrstuvwxyz");
        check.same("twelve", 12, m.word(0, 0));
    }

    @Sentence(promise = 5, says = "perhaps a sign ahead of them, and perhaps a sign behind them")
    private void withAndWithoutSigns() {
        LentMargins m = of("a");
        check.same("none", 4, m.setSigns(0, NONE, NONE));
        linesAre("none", m, "a");
        check.same("ahead", 6, m.setSigns(0, 1, NONE));
        linesAre("ahead", m, "(a");
        check.same("behind", 7, m.setSigns(0, NONE, 5));
        linesAre("behind", m, "a-");
        check.same("both", 10, m.setSigns(0, 0, 0));
        linesAre("both", m, "\"a\"");
    }

    @Sentence(promise = 4, says = "(the last word of all ends one anyway)")
    private void lastWordEndsAParagraph() {
        LentMargins m = of("a b");
        check.same("not set", 0, m.word(1, 4));
        check.same("one paragraph", 1, m.whole(3));
        check.same("its line ends it", 1, m.line(0, 10));
        m.endParagraph(1, true);
        check.same("set as well, still one", 1, m.whole(3));
        m.endParagraph(1, false);
        m.insert(2, 2, 1, NONE, NONE);
        check.same("it was the last, but is no more", 1, m.whole(3));
        linesAre("so the line goes on", m, "a b c");
        check.same("without words there is none", 0, new LentMargins().whole(3));
    }

    @Sentence(promise = 8, says = "The letters f, i, j, l and t are 2 units wide, m and w 6 units, all others 4.")
    private void letterWidths() {
        int[] due = {4, 4, 4, 4, 4, 2, 4, 4, 2, 2, 4, 2, 6, 4, 4, 4, 4, 4, 4, 2, 4, 4, 6, 4, 4, 4};
        LentMargins m = new LentMargins();
        for (int letter = 0; letter < 26; letter++) {
            m.insert(letter, letter, 1, NONE, NONE);
            check.same("width of " + (char) ('a' + letter), due[letter], m.word(letter, 1));
        }
        LentMargins typed = of("a b c d e f g h i j k l m n o p q r s t u v w x y z");
        for (int letter = 0; letter < 26; letter++) {
            check.same("width of typed " + (char) ('a' + letter), due[letter], typed.word(letter, 1));
        }
    }

    @Sentence(promise = 5, says = "There are the signs 0 (a quote, byte 34), 1 (an opening bracket, byte 40), which "
        + "may stand ahead")
    private void signsAhead() {
        LentMargins m = of("a");
        m.setSigns(0, 0, NONE);
        check.same("a quote", 34, m.lineByte(0, 0));
        m.setSigns(0, 1, NONE);
        check.same("an opening bracket", 40, m.lineByte(0, 0));
        check.same("the letter behind it", 97, m.lineByte(0, 1));
        for (int sign = 2; sign < 10; sign++) {
            int ahead = sign;
            refuses("ahead " + sign, () -> of("a"), ARGUMENT, n -> n.setSigns(0, ahead, NONE));
        }
    }

    @Sentence(promise = 5, says = "and 0, 2 (a closing bracket, byte 41), 3 (a full stop, byte 46), 4 (a comma, byte "
        + "44), 5 (a hyphen, byte 45), 6 (a semicolon, byte 59), 7 (an exclamation mark, byte 33), which may stand "
        + "behind.")
    private void signsBehind() {
        int[] bytes = {34, 0, 41, 46, 44, 45, 59, 33};
        LentMargins m = of("a");
        for (int sign = 0; sign < 8; sign++) {
            if (sign != 1) {
                m.setSigns(0, NONE, sign);
                check.same("sign " + sign, bytes[sign], m.lineByte(0, 1));
                check.same("nothing behind it", NONE, m.lineByte(0, 2));
            }
        }
        refuses("behind 1", () -> of("a"), ARGUMENT, n -> n.setSigns(0, NONE, 1));
        refuses("behind 8", () -> of("a"), ARGUMENT, n -> n.setSigns(0, NONE, 8));
    }

    @Sentence(promise = 8, says = "The widths of the signs 0 to 7 are 3, 2, 2, 2, 2, 3, 2, 2.")
    private void signWidths() {
        int[] widths = {3, 2, 2, 2, 2, 3, 2, 2};
        LentMargins m = of("a");
        for (int sign = 0; sign < 8; sign++) {
            m.setSigns(0, sign < 2 ? sign : NONE, sign < 2 ? NONE : sign);
            check.same("with sign " + sign, 4 + widths[sign], m.word(0, 1));
        }
        m.setSigns(0, NONE, 0);
        check.same("with a quote behind", 7, m.word(0, 1));
    }

    @Sentence(promise = 9, says = "A space between two words is 2 units wide.")
    private void spaces() {
        check.same("one word has none", 4, of("a").line(0, 3));
        check.same("two words", 10, of("a b").line(0, 3));
        check.same("three words", 16, of("a b  c ").line(0, 3));
    }

    // ---- settings

    private void settingIs(int what, int atFirst, int least, int greatest) {
        LentMargins m = new LentMargins();
        check.same("at first", atFirst, m.whole(4 + what));
        check.same("to the least", atFirst, m.set(what, least));
        check.same("the least", least, m.whole(4 + what));
        check.same("to the greatest", least, m.set(what, greatest));
        check.same("the greatest", greatest, m.whole(4 + what));
        for (int value : new int[] {least - 1, greatest + 1, LOWEST, HIGHEST}) {
            refuses("value " + value, Cases::busy, ARGUMENT, n -> n.set(what, value));
        }
    }

    @Sentence(promise = 6, says = "0 the measure, the width of a line (20 to 200; 60 at first)")
    private void measure() {
        settingIs(0, 60, 20, 200);
    }

    @Sentence(promise = 6, says = "1 the lines of a page (2 to 20; 6 at first)")
    private void linesOfAPage() {
        settingIs(1, 6, 2, 20);
    }

    @Sentence(promise = 6, says = "2 and 3 the greatest width that the left and that the right margin lend to a line "
        + "(0 to 10; 3 each at first)")
    private void mostLent() {
        settingIs(2, 3, 0, 10);
        settingIs(3, 3, 0, 10);
    }

    @Sentence(promise = 6, says = "4 the greatest width that a line pays back (0 to 10; 2 at first)")
    private void mostPaid() {
        settingIs(4, 2, 0, 10);
    }

    @Sentence(promise = 6, says = "5 whether widows are forbidden (0 or 1; 1 at first)")
    private void widowsForbidden() {
        settingIs(5, 1, 0, 1);
    }

    // ---- what a line pays

    @Sentence(promise = 9, says = "each on the present page, which has a debt (0 at the beginning of each page)")
    private void eachPageBeginsWithoutDebt() {
        LentMargins m = of(20, "\"abcdi. aaaa i bb/");
        m.set(1, 2);
        m.set(4, 3);
        check.same("the page ahead ends with a debt", 3, m.page(0, 4));
        check.same("the first line pays nothing", 0, m.line(0, 7));
        lineIs("nor does the first one of the next page", m, 1, 1, 1, 2, 20, 20, 0, 0, 0, 0, 0, 0, 0);
    }

    @Sentence(promise = 9, says = "The lines are set one after the other")
    private void everyWordHasItsPlaceInOrder() {
        LentMargins m = of(20, "a b c d e f");
        linesAre("six words", m, "a b c", "d e f");
        for (int word = 0; word < 6; word++) {
            check.same("line of word " + word, word / 3, m.word(word, 5));
            check.same("place of word " + word, word % 3, m.word(word, 6));
        }
    }

    private void paysAre(int mostPaid, int... due) {
        LentMargins m = of(20, "\"abcdi. aaaa aaaa aaaa aaaa");
        m.set(4, mostPaid);
        for (int line = 0; line < due.length; line++) {
            check.same("pays at most " + mostPaid + ", line " + line, due[line], m.line(line, 7));
        }
    }

    @Sentence(promise = 9, says = "It pays: the smaller one of the debt and the greatest width that a line pays back.")
    private void paysTheSmallerOne() {
        // The first line lends 3, if anything may be paid back.
        paysAre(0, 0, 0, 0, 0, 0);
        paysAre(1, 0, 1, 1, 1, 0);
        paysAre(2, 0, 2, 1, 0, 0);
        paysAre(3, 0, 3, 0, 0, 0);
        paysAre(4, 0, 3, 0, 0, 0);
        paysAre(10, 0, 3, 0, 0, 0);
    }

    @Sentence(promise = 9, says = "Its own measure is the measure minus this.")
    private void ownMeasure() {
        LentMargins m = of(20, "\"abcdi. aaaaf aaaa");
        lineIs("pays 2: 18 is just wide enough", m, 1, 0, 1, 1, 18, 18, 0, 0, 2, 1, 0, 0, 0);
        lineIs("pays 1", m, 2, 0, 2, 1, 16, 19, 0, 0, 1, 0, 0, 1, 3);
        m.set(4, 3);
        lineIs("pays 3: 18 is too wide", m, 1, 0, 1, 1, 18, 17, 0, 0, 3, 0, 1, 0, 0);
        check.same("pays nothing", 20, m.line(2, 4));
        LentMargins widest = of(200, "a");
        check.same("the greatest measure", 200, widest.line(0, 4));
    }

    // ---- the rows of a line

    @Sentence(promise = 9, says = "Its possible words begin with the first word that is not set yet")
    private void rowsBeginWithTheNextWord() {
        LentMargins m = of(20, "aaaa i bbbb ii j");
        linesAre("lines", m, "aaaa i", "bbbb", "ii j");
        int[] first = {0, 2, 3};
        for (int line = 0; line < 3; line++) {
            check.same("first word of line " + line, first[line], m.line(line, 1));
        }
    }

    @Sentence(promise = 9, says = "and go on as long as no word among them but the last one ends a paragraph.")
    private void rowsEndWithAParagraph() {
        linesAre("the first word ends one", of("a/ b c"), "a", "b c");
        linesAre("the second word ends one", of("a b/ c"), "a b", "c");
        linesAre("each word ends one", of("a/ b/ c/"), "a", "b", "c");
        linesAre("no word is set to end one", of("a b c"), "a b c");
    }

    @Sentence(promise = 9, says = "The natural width of a row of words is the sum of the widths of their letters and "
        + "signs, and of the spaces between them.")
    private void naturalWidth() {
        check.same("least", 2, of("i").line(0, 3));
        check.same("signs and spaces", 9 + 2 + 8 + 2 + 11, of("\"a, (b) mi-").line(0, 3));
        check.same("greatest of one word", 78, of("\"mmmmmmmmmmmm\"").line(0, 3));
    }

    private static LentMargins lent(String text, int left, int right) {
        LentMargins m = of(20, text);
        m.setShare(0, 100);
        m.set(2, left);
        m.set(3, right);
        return m;
    }

    @Sentence(promise = 9, says = "What its left margin could lend is the overhang of a sign ahead of its first word")
    private void leftMarginLendsToTheFirstWord() {
        // Each text is 21 wide, 1 more than the measure.
        linesAre("ahead of the first word", lent("\"aaa ii", 10, 10), "\"aaa ii");
        linesAre("ahead of the second word", lent("aaa \"ii", 10, 10), "aaa", "\"ii");
        check.same("the left margin lends", 1, lent("\"aaa ii", 10, 10).line(0, 5));
        check.same("the right one does not", 0, lent("\"aaa ii", 10, 10).line(0, 6));
        check.same("no sign at all", 1, lent("mmmi.", 10, 0).line(0, 9));
    }

    @Sentence(promise = 9, says = "(0 without one), but at most setting 2")
    private void leftMarginLendsAtMost() {
        // 23 wide, and the quote hangs over by 3.
        check.same("3 of at most 3", 3, lent("\"aaaaa", 3, 0).line(0, 5));
        check.same("3 of at most 10", 3, lent("\"aaaaa", 10, 0).line(0, 5));
        check.same("2 is too little", 1, lent("\"aaaaa", 2, 10).line(0, 9));
        check.same("0 is too little", 1, lent("\"aaaaa", 0, 10).line(0, 9));
        check.same("without a sign", 1, lent("aaaaai", 10, 10).line(0, 9));
    }

    @Sentence(promise = 9, says = "what its right margin could lend is the overhang of a sign behind its last word")
    private void rightMarginLendsToTheLastWord() {
        linesAre("behind the last word", lent("aaa ii-", 10, 10), "aaa ii-");
        linesAre("behind the first word", lent("aaa- ii", 10, 10), "aaa-", "ii");
        check.same("the right margin lends", 1, lent("aaa ii-", 10, 10).line(0, 6));
        check.same("the left one does not", 0, lent("aaa ii-", 10, 10).line(0, 5));
    }

    @Sentence(promise = 9, says = "(0 without one), but at most setting 3.")
    private void rightMarginLendsAtMost() {
        check.same("3 of at most 3", 3, lent("aaaaa-", 0, 3).line(0, 6));
        check.same("3 of at most 10", 3, lent("aaaaa-", 0, 10).line(0, 6));
        check.same("2 is too little", 1, lent("aaaaa-", 10, 2).line(0, 9));
        check.same("0 is too little", 1, lent("aaaaa-", 10, 0).line(0, 9));
        check.same("without a sign", 1, lent("\"aaaai", 0, 10).line(0, 9));
    }

    @Sentence(promise = 9, says = "The need of a row is its natural width minus the line's own measure, and at least "
        + "0.")
    private void needOfARow() {
        lineIs("just as wide", of(23, "\"abcdi."), 0, 0, 0, 1, 23, 23, 0, 0, 0, 0, 0, 1, 0);
        lineIs("one wider", of(22, "\"abcdi."), 0, 0, 0, 1, 23, 22, 0, 1, 0, 1, 0, 1, 0);
        lineIs("one less wide", of(24, "\"abcdi."), 0, 0, 0, 1, 23, 24, 0, 0, 0, 0, 0, 1, 1);
        lineIs("much less wide", of(200, "\"abcdi."), 0, 0, 0, 1, 23, 200, 0, 0, 0, 0, 0, 1, 177);
    }

    @Sentence(promise = 9, says = "A row fits if its need is 0 (whatever the debt is)")
    private void rowWithoutNeedFits() {
        LentMargins m = of(20, "\"abcdi. \"abcdi. aaai ffff");
        m.setShare(0, 100);
        m.set(1, 5);
        // A debt of 6 is as much as the three lines behind can pay; the rows that need nothing fit all the same.
        check.same("debt", 6, m.line(1, 8));
        lineIs("pays 2", m, 2, 0, 2, 1, 14, 18, 0, 0, 2, 4, 0, 0, 4);
        lineIs("pays 2 more", m, 3, 0, 3, 1, 8, 18, 0, 0, 2, 2, 0, 1, 10);
        LentMargins unpaid = of(20, "aaaaa ii");
        unpaid.set(4, 0);
        linesAre("with nothing ever paid", unpaid, "aaaaa", "ii");
        check.same("the first one fits", 0, unpaid.line(0, 9));
    }

    @Sentence(promise = 9, says = "or if its need is at most what both its margins could lend together")
    private void needIsAtMostWhatBothLend() {
        // 25 wide; the quote hangs over by 1, the full stop by 2.
        lineIs("just enough", of(22, "\"abcda."), 0, 0, 0, 1, 25, 22, 1, 2, 0, 3, 0, 1, 0);
        lineIs("one too much", of(21, "\"abcda."), 0, 0, 0, 1, 25, 21, 0, 0, 0, 0, 1, 1, 0);
        LentMargins most = of(20, "\"aaaaa-");
        most.setShare(0, 100);
        lineIs("six is the most", most, 0, 0, 0, 1, 26, 20, 3, 3, 0, 6, 0, 1, 0);
    }

    private static LentMargins twoThatLend(int linesOfAPage, int mostPaid) {
        LentMargins m = of(20, "\"abcdi. \"abcdi. a");
        m.setShare(0, 100);
        m.set(1, linesOfAPage);
        m.set(4, mostPaid);
        return m;
    }

    @Sentence(promise = 9, says = "and the debt, minus what the line pays, plus the need, is at most setting 4 times "
        + "the number of lines that are behind this one on a full page.")
    private void debtThatCanBePaid() {
        check.same("3 of 1 * 3", 0, twoThatLend(4, 1).line(0, 9));
        check.same("3 of 1 * 2", 1, twoThatLend(3, 1).line(0, 9));
        check.same("3 of 3 * 1", 0, twoThatLend(2, 3).line(0, 9));
        check.same("3 of 2 * 1", 1, twoThatLend(2, 2).line(0, 9));
        check.same("3 of 0 * 19", 1, twoThatLend(20, 0).line(0, 9));
        // The second line pays 1 and needs 4 then: 3 - 1 + 4 is 6.
        lineIs("6 of 1 * 6", twoThatLend(8, 1), 1, 0, 1, 1, 23, 19, 2, 2, 1, 6, 0, 0, 0);
        lineIs("6 of 1 * 5", twoThatLend(7, 1), 1, 0, 1, 1, 23, 19, 0, 0, 1, 2, 1, 0, 0);
        LentMargins last = of(20, "aaaaa aaaai- a");
        last.set(1, 2);
        last.set(4, 10);
        last.set(5, 0);
        check.same("1 of 10 * 0: the last line of a full page", 1, last.line(1, 9));
        last.set(1, 3);
        check.same("1 of 10 * 1", 1, last.line(1, 6));
    }

    @Sentence(promise = 9, says = "lines that are behind this one on a full page.")
    private void linesBehindNeedNotBeThere() {
        lineIs("the only line", of(20, "\"abcdi."), 0, 0, 0, 1, 23, 20, 1, 2, 0, 3, 0, 1, 0);
        LentMargins m = of(20, "\"abcdi.");
        m.set(1, 2);
        check.same("one line behind it could pay 2", 1, m.line(0, 9));
        m.set(4, 3);
        check.same("one line behind it could pay 3", 0, m.line(0, 9));
    }

    @Sentence(promise = 9, says = "The line takes the longest one of all rows of possible words that fit")
    private void longestRowThatFits() {
        linesAre("the longest one is lent to", of(26, "abcd i. i- a"), "abcd i. i-", "a");
        linesAre("one less, it does not fit", of(25, "abcd i. i- a"), "abcd i.", "i- a");
        linesAre("all of them", of(35, "abcd i. i- a"), "abcd i. i- a");
        linesAre("all but one", of(34, "abcd i. i- a"), "abcd i. i-", "a");
        LentMargins sixty = of(200, "i ".repeat(60));
        check.same("forty nine words and a half", 50, sixty.line(0, 2));
        check.same("50 * 2 + 49 * 2", 198, sixty.line(0, 3));
    }

    @Sentence(promise = 9, says = "if none does, the first word alone (the line is too wide then, and nothing is lent, "
        + "but it pays).")
    private void firstWordAlone() {
        LentMargins m = of(20, "\"abcdi. \"mmmm. i");
        lineIs("too wide", m, 1, 0, 1, 1, 29, 18, 0, 0, 2, 1, 1, 0, 0);
        lineIs("the next word has a line of its own", m, 2, 0, 2, 1, 2, 19, 0, 0, 1, 0, 0, 1, 17);
        lineIs("the only word", of(20, "mmmi."), 0, 0, 0, 1, 22, 20, 0, 2, 0, 2, 0, 1, 0);
        lineIs("the only word, too wide", of(20, "mmmmi"), 0, 0, 0, 1, 26, 20, 0, 0, 0, 0, 1, 1, 0);
    }

    @Sentence(promise = 9, says = "the right margin lends the smaller one of the need and what it could lend, the left "
        + "one the rest.")
    private void rightMarginLendsFirst() {
        int[][] due = {{1, 2}, {0, 2}, {0, 1}, {0, 0}};
        for (int i = 0; i < 4; i++) {
            LentMargins m = of(20 + i, "\"abcdi.");
            check.same("need " + (3 - i) + ", left", due[i][0], m.line(0, 5));
            check.same("need " + (3 - i) + ", right", due[i][1], m.line(0, 6));
        }
    }

    @Sentence(promise = 9, says = "If its need is above 0 and it fits, this is lent")
    private void nothingIsLentWithoutNeed() {
        LentMargins m = of(20, "\"aaai. \"aaaa.");
        lineIs("no need", m, 0, 0, 0, 1, 19, 20, 0, 0, 0, 0, 0, 0, 1);
        lineIs("need 1", m, 1, 0, 1, 1, 21, 20, 0, 1, 0, 1, 0, 1, 0);
        m.set(3, 0);
        m.set(2, 0);
        lineIs("need 1, but it does not fit", m, 1, 0, 1, 1, 21, 20, 0, 0, 0, 0, 1, 1, 0);
    }

    @Sentence(promise = 9, says = "The debt decreases by what is paid and increases by what is lent.")
    private void debtBehindALine() {
        LentMargins m = twoThatLend(8, 1);
        int[] due = {3, 6, 5};
        for (int line = 0; line < 3; line++) {
            check.same("debt behind line " + line, due[line], m.line(line, 8));
        }
        check.same("none without lending", 0, of("a").line(0, 8));
    }

    // ---- pages

    private void pagesAre(int words, int linesOfAPage, int pages, int onTheLast) {
        LentMargins m = oneWordLines(words);
        m.set(5, 0);
        m.set(1, linesOfAPage);
        String what = words + " lines, " + linesOfAPage + " a page, ";
        check.same(what + "pages", pages, m.whole(2));
        for (int page = 0; page < pages; page++) {
            check.same(what + "first line of page " + page, page * linesOfAPage, m.page(page, 0));
            check.same(what + "on page " + page, page < pages - 1 ? linesOfAPage : onTheLast, m.page(page, 1));
        }
    }

    @Sentence(promise = 10, says = "A page is full with as many lines as setting 1 tells; then a new page begins.")
    private void fullPages() {
        pagesAre(60, 2, 30, 2);
        pagesAre(59, 2, 30, 1);
        pagesAre(60, 20, 3, 20);
        pagesAre(41, 20, 3, 1);
        pagesAre(60, 7, 9, 4);
        pagesAre(1, 2, 1, 1);
        pagesAre(2, 2, 1, 2);
        pagesAre(3, 2, 2, 1);
    }

    /** Pages of two lines each, of words with a line to themselves. */
    private static LentMargins byTwo(String text) {
        LentMargins m = of(20, text);
        m.set(1, 2);
        return m;
    }

    private void linesOnPages(String what, LentMargins m, int... due) {
        check.same(what + ": pages", due.length, m.whole(2));
        for (int page = 0; page < due.length && page < m.whole(2); page++) {
            check.same(what + ": lines of page " + page, due[page], m.page(page, 1));
        }
    }

    @Sentence(promise = 10, says = "If widows are forbidden")
    private void widowsMayBeAllowed() {
        LentMargins m = byTwo("aaaaa bbbbb ccccc");
        linesOnPages("forbidden", m, 1, 2);
        m.set(5, 0);
        linesOnPages("allowed", m, 2, 1);
        check.same("nothing taken back", 0, m.page(0, 5));
    }

    @Sentence(promise = 10, says = "a page is full,")
    private void pageThatIsNotFull() {
        LentMargins m = of(20, "aaaaa bbbbb ccccc/");
        m.set(1, 3);
        linesOnPages("just full, with no line behind", m, 3);
        check.same("nothing taken back", 0, m.page(0, 5));
        m.set(1, 4);
        linesOnPages("not full", m, 3);
        m.set(1, 2);
        linesOnPages("full, with a line behind", m, 1, 2);
    }

    @Sentence(promise = 10, says = "its last line does not end a paragraph")
    private void lastLineEndsAParagraph() {
        LentMargins m = byTwo("aaaaa bbbbb/ ccccc/ ddddd");
        linesOnPages("it does", m, 2, 2);
        m.endParagraph(1, false);
        linesOnPages("it does not", m, 1, 2, 1);
    }

    @Sentence(promise = 10, says = "and is not the only line of the page")
    private void oneLineStays() {
        LentMargins m = byTwo("aaaaa bbbbb ccccc/");
        pageIs("two lines, of which one stays", m, 0, 0, 1, 0, 0, 0, 1);
        pageIs("the last page", m, 1, 1, 2, 0, 0, 0, 0);
    }

    @Sentence(promise = 10, says = "and the next line, set as the first one of the next page (with the debt 0), would "
        + "end a paragraph")
    private void nextLineIsAWidow() {
        linesOnPages("it ends one that is set", byTwo("aaaaa bbbbb ccccc/ ddddd eeeee"), 1, 2, 2);
        linesOnPages("it ends the last one", byTwo("aaaaa bbbbb ccccc"), 1, 2);
        linesOnPages("it ends none", byTwo("aaaaa bbbbb ccccc ddddd"), 2, 2);
        LentMargins m = byTwo("aaaaa bbbbb aaaa i./ c");
        // aaaa i. is 22 wide: it takes i. if the one line behind it on a full page pays 2.
        // (On top of page 2, as there is no line behind it at the end of page 1.)
        linesOnPages("it ends one as it is lent to there", m, 1, 1, 2);
        m.set(4, 1);
        linesOnPages("it ends none as it is not lent to", m, 2, 2, 1);
        LentMargins owed = byTwo("\"abcdi. aaai aaaaf/ cc");
        owed.set(4, 3);
        // aaai pays 3; aaaaf, 18 wide, has 20 without a debt.
        linesOnPages("without the debt of the full page", owed, 1, 2, 1);
    }

    @Sentence(promise = 10, says = "then the last line of the full page is taken back (the debt stays as it was behind "
        + "the line ahead of it)")
    private void debtBehindTheLineAhead() {
        LentMargins m = byTwo("\"abcdi. aaai aiij/ cc");
        m.set(4, 3);
        pageIs("lent 3, of which nothing is paid", m, 0, 0, 1, 3, 0, 3, 1);
        check.same("lines", 4, m.whole(1));
        check.same("lent in all", 3, m.whole(12));
        LentMargins wide = byTwo("aaaaa mmmmm ccccc/");
        linesOnPages("a line that is too wide", wide, 1, 2);
        check.same("counted once", 1, wide.whole(11));
    }

    @Sentence(promise = 10, says = "and the next page begins with its words.")
    private void takenBackIsSetAnew() {
        LentMargins m = byTwo("\"abcdi. aaaa i bb/");
        m.set(4, 3);
        // On page 0 aaaa has 17 and stands alone, on page 1 it has 20 and takes i.
        linesAre("longer than before", m, "\"abcdi.", "aaaa i", "bb");
        check.same("first word of page 1", 1, m.line(m.page(1, 0), 1));
        LentMargins shorter = byTwo("aaaaa aaaaf aaaa");
        shorter.set(0, 22);
        linesAre("as before", shorter, "aaaaa", "aaaaf", "aaaa");
        linesOnPages("as before", shorter, 1, 2);
    }

    @Sentence(promise = 10, says = "Setting the lines never looks back further (at most one line of each page is taken "
        + "back).")
    private void onlyOneLineIsTakenBack() {
        LentMargins m = byTwo("\"abcdi. aaaa i/ bb");
        m.set(4, 3);
        // Set anew, aaaa i ends the paragraph itself, on top of page 1.
        linesAre("the widow stays", m, "\"abcdi.", "aaaa i", "bb");
        linesOnPages("the widow stays", m, 1, 2);
        LentMargins three = of(20, "aaaaa bbbbb ccccc ddddd/");
        three.set(1, 3);
        linesOnPages("two of three stay", three, 2, 2);
        LentMargins twenty = oneWordLines(21);
        twenty.set(1, 20);
        linesOnPages("nineteen of twenty stay", twenty, 19, 2);
        LentMargins each = byTwo("aaaaa aaaaa aaaaa/ ".repeat(10));
        linesOnPages("of every other page", each, 1, 2, 1, 2, 1, 2, 1, 2, 1, 2, 1, 2, 1, 2, 1, 2, 1, 2, 1, 2);
        LentMargins every = byTwo("\"abcdi. aaaa i/ ".repeat(12));
        every.set(4, 3);
        int[] one = new int[24];
        Arrays.fill(one, 1);
        linesOnPages("of every page but the last", every, one);
    }

    @Sentence(promise = 10, says = "The debt that is left at the end of a page is paid by the empty lines of the page.")
    private void debtAtTheEndOfAPage() {
        LentMargins m = twoThatLend(5, 2);
        pageIs("three of five lines", m, 0, 0, 3, 8, 4, 4, 0);
        LentMargins full = twoThatLend(2, 3);
        pageIs("one of two lines, as the other one was taken back", full, 0, 0, 1, 3, 0, 3, 1);
        full.set(5, 0);
        pageIs("no empty line, and no debt left", full, 0, 0, 2, 3, 3, 0, 0);
    }

    // ---- the rest

    @Sentence(promise = 8, says = "The constants: NONE = -1: Returned where there is no such value.")
    private void none() {
        check.same("NONE", -1, LentMargins.NONE);
        check.same("no sign ahead", -1, of("a").word(0, 2));
        check.same("no sign behind", -1, of("a").word(0, 3));
    }

    @Sentence(promise = 24, says = "An object is used for at most 512 calls after it has been made; what later calls "
        + "answer is free.")
    private void fiveHundredAndTwelveCalls() {
        LentMargins m = new LentMargins();
        for (int call = 0; call < 60; call++) {
            m.insert(call, call % 26, 1 + call % 12, NONE, 5);
        }
        for (int call = 60; call < 511; call++) {
            check.same("call " + call, 20, m.measureFor(60));
        }
        long last = m.digest();
        LentMargins fresh = new LentMargins();
        for (int call = 0; call < 60; call++) {
            fresh.insert(call, call % 26, 1 + call % 12, NONE, 5);
        }
        check.same("call 512", fresh.digest(), last);
    }
}
