/** Every promise with answers worked out by hand: ordinary calls, edges, and calls that are refused. */
public final class PromisesTest extends Cases {
    public static void main(String[] args) {
        PromisesTest test = new PromisesTest();
        test.newObject();
        test.insert();
        test.removeWord();
        test.endParagraph();
        test.setSigns();
        test.set();
        test.setShare();
        test.word();
        test.line();
        test.longestRow();
        test.debtBound();
        test.page();
        test.widow();
        test.widowThatIsLentTo();
        test.whole();
        test.share();
        test.unevennessAndMean();
        test.whatIf();
        test.measureForAndEvenest();
        test.type();
        test.readWords();
        test.faults();
        test.lineByte();
        test.undo();
        test.digest();
        test.check.finish();
    }

    private void newObject() {
        LentMargins m = new LentMargins();
        wholeIs("new", m, 0, 0, 0, 0, 60, 6, 3, 3, 2, 1, 0, 0, 0, 0);
        int[] shares = {50, 50, 50, 100, 100, 100, 50, 50};
        for (int sign = 0; sign < 8; sign++) {
            check.same("new share " + sign, shares[sign], m.share(sign));
        }
        check.refuses("new undo", m, STATE, m::undo);
        check.refuses("new word", m, INDEX, () -> m.word(0, 0));
        check.refuses("new line", m, INDEX, () -> m.line(0, 0));
        check.refuses("new page", m, INDEX, () -> m.page(0, 0));
        check.refuses("new lineByte", m, INDEX, () -> m.lineByte(0, 0));
        check.same("new unevenness", 0, m.unevenness());
        check.sameDouble("new meanEmpty", 0.0, m.meanEmpty());
        check.same("new clearText", 0, m.clearText());
        check.same("the constant", -1, LentMargins.NONE);
    }

    private void insert() {
        LentMargins m = new LentMargins();
        check.same("insert first", 1, m.insert(0, 0, 1, NONE, NONE));
        check.same("insert behind", 2, m.insert(1, 25, 2, 1, 7));
        check.same("insert ahead", 3, m.insert(0, 12, 12, 0, 0));
        check.same("insert between", 4, m.insert(1, 5, 3, NONE, 2));
        // mnopqrstuvwx with quotes: 3 + 6+4*6+2+4*2+6+4 + 3; letters m n o p q r s t u v w x
        check.same("width of mn..x", 3 + (6 + 4 * 6 + 2 + 4 + 4 + 6 + 4) + 3, m.word(0, 1));
        check.same("width of fgh)", 2 + 4 + 4 + 2, m.word(1, 1));
        check.same("width of a", 4, m.word(2, 1));
        check.same("width of (za!", 2 + 4 + 4 + 2, m.word(3, 1));
        check.same("letters of (za!", 2, m.word(3, 0));
        check.same("a behind z", 'a', byteOf(m, 3, 2));
        check.same("sign ahead", 1, m.word(3, 2));
        check.same("sign behind", 7, m.word(3, 3));
        check.same("does not end", 0, m.word(3, 4));
        check.refuses("insert at -1", m, INDEX, () -> m.insert(-1, -1, 0, 2, 1));
        check.refuses("insert at 5 of 4", m, INDEX, () -> m.insert(5, 0, 1, NONE, NONE));
        int[][] wrong = {
            {-1, 1, NONE, NONE}, {26, 1, NONE, NONE}, {0, 0, NONE, NONE}, {0, 13, NONE, NONE}, {0, 1, -2, NONE},
            {0, 1, 2, NONE}, {0, 1, NONE, -2}, {0, 1, NONE, 1}, {0, 1, NONE, 8}
        };
        for (int[] w : wrong) {
            check.refuses("insert wrong", m, ARGUMENT, () -> m.insert(4, w[0], w[1], w[2], w[3]));
        }
        insertKeepsEnds();
        insertFull();
    }

    private int byteOf(LentMargins m, int word, int index) {
        int line = m.word(word, 5);
        int at = 0;
        for (int before = word - m.word(word, 6); before < word; before++) {
            at += m.word(before, 0) + (m.word(before, 2) == NONE ? 0 : 1) + (m.word(before, 3) == NONE ? 0 : 1) + 1;
        }
        return m.lineByte(line, at + index);
    }

    private void insertKeepsEnds() {
        LentMargins m = of("a/ b c/");
        m.insert(0, 3, 1, NONE, NONE);
        check.same("moved word still ends", 1, m.word(1, 4));
        check.same("new word does not end", 0, m.word(0, 4));
        m.insert(4, 4, 1, NONE, NONE);
        check.same("last of before still ends", 1, m.word(3, 4));
        check.same("new last one was not set", 0, m.word(4, 4));
        check.same("but ends one", 3, m.whole(3));
    }

    private void insertFull() {
        LentMargins m = new LentMargins();
        for (int i = 0; i < 60; i++) {
            check.same("insert up to 60", i + 1, m.insert(i, i % 26, 1, NONE, NONE));
        }
        check.refuses("insert 61st", m, STATE, () -> m.insert(60, 0, 1, NONE, NONE));
        check.refuses("insert 61st ahead", m, STATE, () -> m.insert(0, 0, 1, NONE, NONE));
        check.refuses("insert 61st, wrong argument", m, ARGUMENT, () -> m.insert(0, 0, 13, NONE, NONE));
        check.refuses("insert 61st, wrong place", m, INDEX, () -> m.insert(61, 0, 13, NONE, NONE));
        check.same("remove from full", 59, m.removeWord(0));
        check.same("insert again", 60, m.insert(59, 0, 12, 1, 5));
        check.same("the last word", 12, m.word(59, 0));
    }

    private void removeWord() {
        LentMargins m = of("aa b/ cc. \"d\"");
        check.refuses("remove -1", m, INDEX, () -> m.removeWord(-1));
        check.refuses("remove 4", m, INDEX, () -> m.removeWord(4));
        check.same("paragraphs", 2, m.whole(3));
        check.same("remove b/", 3, m.removeWord(1));
        check.same("paragraph goes on", 1, m.whole(3));
        check.same("one line", 1, m.whole(1));
        wordIs("after removal", m, 1, 2, 10, NONE, 3, 0, 0, 1, 0, 10);
        check.same("remove last", 2, m.removeWord(2));
        check.same("remove first", 1, m.removeWord(0));
        check.same("cc. is left", 'c', m.lineByte(0, 0));
        check.same("remove only", 0, m.removeWord(0));
        check.refuses("remove none", m, INDEX, () -> m.removeWord(0));
        check.same("undo removal", 3, m.undo());
        check.same("it is there again", 3, m.word(0, 3));
    }

    private void endParagraph() {
        LentMargins m = of("a b c");
        check.same("lines", 1, m.whole(1));
        check.same("was not set", 0, m.endParagraph(0, true));
        check.same("lines then", 2, m.whole(1));
        check.same("was set", 1, m.endParagraph(0, true));
        check.same("last was not set", 0, m.endParagraph(2, true));
        check.same("last was set", 1, m.endParagraph(2, false));
        check.same("last ends anyway", 2, m.whole(3));
        check.same("as it was set", 0, m.word(2, 4));
        check.same("was set, is no more", 1, m.endParagraph(0, false));
        check.same("lines again", 1, m.whole(1));
        check.refuses("end of -1", m, INDEX, () -> m.endParagraph(-1, true));
        check.refuses("end of 3", m, INDEX, () -> m.endParagraph(3, false));
    }

    private void setSigns() {
        LentMargins m = of("a b");
        check.same("signs 0 and 0", 10, m.setSigns(0, 0, 0));
        check.same("signs 1 and 5", 9, m.setSigns(0, 1, 5));
        int[] widths = {7, 0, 6, 6, 6, 7, 6, 6};
        for (int sign = 2; sign < 8; sign++) {
            check.same("sign behind " + sign, widths[sign], m.setSigns(1, NONE, sign));
            check.same("is set", sign, m.word(1, 3));
        }
        check.same("no signs", 4, m.setSigns(1, NONE, NONE));
        check.same("none behind", NONE, m.word(1, 3));
        check.refuses("signs of -1", m, INDEX, () -> m.setSigns(-1, 5, 1));
        check.refuses("signs of 2", m, INDEX, () -> m.setSigns(2, 0, 0));
        check.refuses("ahead 2", m, ARGUMENT, () -> m.setSigns(0, 2, 0));
        check.refuses("ahead -2", m, ARGUMENT, () -> m.setSigns(0, -2, 0));
        check.refuses("behind 1", m, ARGUMENT, () -> m.setSigns(0, 0, 1));
        check.refuses("behind 8", m, ARGUMENT, () -> m.setSigns(0, 0, 8));
        check.refuses("behind -2", m, ARGUMENT, () -> m.setSigns(0, 0, -2));
    }

    private void set() {
        LentMargins m = new LentMargins();
        int[] first = {60, 6, 3, 3, 2, 1};
        int[] low = {20, 2, 0, 0, 0, 0};
        int[] high = {200, 20, 10, 10, 10, 1};
        for (int i = 0; i < 6; i++) {
            int what = i;
            check.refuses("too low " + i, m, ARGUMENT, () -> m.set(what, low[what] - 1));
            check.refuses("too high " + i, m, ARGUMENT, () -> m.set(what, high[what] + 1));
            check.same("first " + i, first[i], m.set(i, low[i]));
            check.same("low " + i, low[i], m.set(i, high[i]));
            check.same("high " + i, high[i], m.whole(4 + i));
        }
        check.refuses("set -1", m, ARGUMENT, () -> m.set(-1, 1));
        check.refuses("set 6", m, ARGUMENT, () -> m.set(6, 1));
    }

    private void setShare() {
        LentMargins m = of("aaaa.");
        m.set(0, 20);
        m.setSigns(0, NONE, 3);
        m.insert(1, 0, 1, NONE, NONE);
        // aaaa. is 18 wide and fits; with a word of 4 letters and a quote ahead it needs 1.
        check.same("share of a full stop", 100, m.setShare(3, 0));
        check.same("share then", 0, m.setShare(3, 100));
        check.same("share last", 100, m.share(3));
        m.setSigns(0, 0, 3);
        lineIs("lent from the stop", m, 0, 0, 0, 1, 21, 20, 0, 1, 0, 1, 0, 0, 0);
        // 2 * 49 / 100 is cut to 0; the quote still lends 3 * 50 / 100 = 1.
        m.setShare(3, 49);
        lineIs("lent from the quote", m, 0, 0, 0, 1, 21, 20, 1, 0, 0, 1, 0, 0, 0);
        m.setShare(0, 33);
        lineIs("3 * 33 / 100 is 0", m, 0, 0, 0, 1, 21, 20, 0, 0, 0, 0, 1, 0, 0);
        m.setShare(0, 34);
        check.same("3 * 34 / 100 is 1", 0, m.line(0, 9));
        check.refuses("share of -1", m, INDEX, () -> m.setShare(-1, 101));
        check.refuses("share of 8", m, INDEX, () -> m.setShare(8, 50));
        check.refuses("share -1", m, ARGUMENT, () -> m.setShare(0, -1));
        check.refuses("share 101", m, ARGUMENT, () -> m.setShare(7, 101));
    }

    /** Measure 20: the first line is "abcdi. (23 wide), which needs 3: 2 from the right, 1 from the left. */
    private static LentMargins lending() {
        LentMargins m = of("\"abcdi. ab c (ee! ff");
        m.set(0, 20);
        return m;
    }

    private void word() {
        LentMargins m = lending();
        wordIs("lending", m, 0, 5, 23, 0, 3, 0, 0, 0, 0, -1);
        wordIs("second line", m, 1, 2, 8, NONE, NONE, 0, 1, 0, 0, 0);
        wordIs("second in it", m, 2, 1, 4, NONE, NONE, 0, 1, 1, 0, 10);
        wordIs("third line", m, 3, 2, 12, 1, 7, 0, 2, 0, 0, 0);
        wordIs("last", m, 4, 2, 4, NONE, NONE, 0, 2, 1, 0, 14);
        check.refuses("word -1", m, INDEX, () -> m.word(-1, -1));
        check.refuses("word 5", m, INDEX, () -> m.word(5, 9));
        check.refuses("what -1", m, ARGUMENT, () -> m.word(0, -1));
        check.refuses("what 9", m, ARGUMENT, () -> m.word(4, 9));
    }

    private void line() {
        LentMargins m = lending();
        // page, first, words, natural, own, left, right, pays, debt, wide, ends, empty
        lineIs("lending", m, 0, 0, 0, 1, 23, 20, 1, 2, 0, 3, 0, 0, 0);
        lineIs("pays 2", m, 1, 0, 1, 2, 14, 18, 0, 0, 2, 1, 0, 0, 4);
        lineIs("pays the rest", m, 2, 0, 3, 2, 18, 19, 0, 0, 1, 0, 0, 1, 1);
        check.refuses("line -1", m, INDEX, () -> m.line(-1, -1));
        check.refuses("line 3", m, INDEX, () -> m.line(3, 12));
        check.refuses("what -1", m, ARGUMENT, () -> m.line(0, -1));
        check.refuses("what 12", m, ARGUMENT, () -> m.line(2, 12));
        LentMargins wide = of("\"abcdi. mmmmm. a");
        wide.set(0, 20);
        // 32 wide, own measure 18: too wide, nothing is lent, but it pays.
        lineIs("too wide", wide, 1, 0, 1, 1, 32, 18, 0, 0, 2, 1, 1, 0, 0);
        check.same("the next one pays 1", 1, wide.line(2, 7));
    }

    private void longestRow() {
        LentMargins m = of("abc iii ii, b");
        m.set(0, 20);
        // abc 12, abc iii 20, abc iii ii, 28.
        lineIs("just the measure", m, 0, 0, 0, 2, 20, 20, 0, 0, 0, 0, 0, 0, 0);
        LentMargins hyphen = of("abcd i. i- a");
        hyphen.set(0, 25);
        // abcd i. 22; abcd i. i- 29 needs 4 at 25, the hyphen lends 3.
        check.same("the hyphen lends too little", 2, hyphen.line(0, 2));
        hyphen.set(0, 26);
        lineIs("the hyphen lends all", hyphen, 0, 0, 0, 3, 29, 26, 0, 3, 0, 3, 0, 0, 0);
        LentMargins both = of("\"abcd ij i! i a");
        both.setShare(7, 100);
        both.setShare(0, 100);
        both.set(0, 26);
        // "abcd ij 25; with i! 31: needs 5, 2 from the right and 3 from the left.
        lineIs("both margins", both, 0, 0, 0, 3, 31, 26, 3, 2, 0, 5, 0, 0, 0);
        both.set(2, 2);
        check.same("left lends 2 at most", 2, both.line(0, 2));
        both.set(2, 3);
        both.set(3, 1);
        check.same("right lends 1 at most", 2, both.line(0, 2));
        both.set(2, 10);
        both.set(3, 10);
        check.same("not more than the signs hang", 2, both.linesWith(26));
        both.set(0, 25);
        check.same("6 is too much", 2, both.line(0, 2));
        LentMargins quote = of("mmm\" i j");
        quote.set(0, 20);
        // mmm" 21 needs 1 and gets 1; mmm" i 25 has no sign at its end.
        lineIs("quote behind", quote, 0, 0, 0, 1, 21, 20, 0, 1, 0, 1, 0, 0, 0);
        LentMargins ended = of("a b/ c");
        check.same("a row stops at the end of a paragraph", 2, ended.line(0, 2));
        check.same("which the line ends", 1, ended.line(0, 10));
    }

    private void debtBound() {
        // Two lines a page: the first one may lend up to what one line pays, the last one nothing.
        LentMargins m = of("\"abcdi. aaaa. aaaa. a");
        m.set(0, 20);
        m.set(5, 0);
        m.set(1, 2);
        check.same("3 is more than one line pays", 1, m.line(0, 9));
        m.set(4, 3);
        check.same("3 is what one line pays", 0, m.line(0, 9));
        lineIs("the last line lends nothing", m, 1, 0, 1, 1, 18, 17, 0, 0, 3, 0, 1, 0, 0);
        check.same("a new page has no debt", 20, m.line(2, 4));
        m.set(1, 3);
        // With one more line behind, the second line (need 1, pays 3 of 3) may lend 1.
        lineIs("pays 3 and lends 1", m, 1, 0, 1, 1, 18, 17, 0, 1, 3, 1, 0, 0, 0);
        lineIs("the last pays 1", m, 2, 0, 2, 1, 18, 19, 0, 0, 1, 0, 0, 0, 1);
        m.set(4, 0);
        check.same("nothing may be lent if nothing is paid", 0, m.whole(12));
        LentMargins exact = of("\"abcdi. \"abcdi. a");
        exact.set(0, 20);
        exact.set(1, 4);
        // The first lends 3; the second pays 2 and needs 5: the signs lend 3 only.
        check.same("the second is too wide", 1, exact.line(1, 9));
        exact.setShare(0, 100);
        // Now the second could lend 5, and 3 - 2 + 5 = 6 is more than 2 * 2.
        check.same("the debt would be too great", 1, exact.line(1, 9));
        exact.set(1, 5);
        // 3 lines behind the second: 6 is just what they can pay.
        lineIs("the debt is just payable", exact, 1, 0, 1, 1, 23, 18, 3, 2, 2, 6, 0, 0, 0);
        pageIs("empty lines pay the rest", exact, 0, 0, 3, 8, 4, 4, 0);
    }

    private void page() {
        LentMargins m = of("\"abcdi. ab c (ee! ff eeee ffffff g");
        m.set(0, 20);
        m.set(1, 2);
        m.set(4, 3);
        m.set(5, 0);
        pageIs("first page", m, 0, 0, 2, 3, 3, 0, 0);
        // Lines: 0 "abcdi. | 1 ab c | 2 (ee! ff | 3 eeee | 4 ffffff g
        pageIs("second page", m, 1, 2, 2, 0, 0, 0, 0);
        pageIs("last page", m, 2, 4, 1, 0, 0, 0, 0);
        check.same("pages", 3, m.whole(2));
        m.removeWord(7);
        m.removeWord(6);
        check.same("no empty page behind a full one", 2, m.whole(2));
        check.refuses("page -1", m, INDEX, () -> m.page(-1, -1));
        check.refuses("page 2", m, INDEX, () -> m.page(2, 6));
        check.refuses("what -1", m, ARGUMENT, () -> m.page(0, -1));
        check.refuses("what 6", m, ARGUMENT, () -> m.page(1, 6));
        LentMargins debt = of("\"abcdi.");
        debt.set(0, 20);
        pageIs("debt at the end", debt, 0, 0, 1, 3, 0, 3, 0);
    }

    private void widow() {
        // One word a line, two lines a page; the third line ends a paragraph.
        LentMargins m = of("aaaaa bbbbb ccccc/ ddddd eeeee");
        m.set(0, 20);
        m.set(1, 2);
        pageIs("taken back", m, 0, 0, 1, 0, 0, 0, 1);
        pageIs("second", m, 1, 1, 2, 0, 0, 0, 0);
        pageIs("third", m, 2, 3, 2, 0, 0, 0, 0);
        check.same("word 1 begins page 1", 1, m.word(1, 7));
        m.set(5, 0);
        pageIs("widows allowed", m, 0, 0, 2, 0, 0, 0, 0);
        pageIs("with a widow", m, 1, 2, 2, 0, 0, 0, 0);
        m.set(5, 1);
        m.endParagraph(1, true);
        pageIs("last line ends a paragraph itself", m, 0, 0, 2, 0, 0, 0, 0);
        m.endParagraph(1, false);
        m.endParagraph(2, false);
        pageIs("no widow, no way back", m, 0, 0, 2, 0, 0, 0, 0);
        pageIs("the last word of all is a widow", m, 1, 2, 1, 0, 0, 0, 1);
        pageIs("which gets company", m, 2, 3, 2, 0, 0, 0, 0);
        widowWithDebt();
    }

    /** The line taken back is set anew on its new page, and what it paid is no part of the page ahead. */
    private void widowWithDebt() {
        LentMargins m = of("\"abcdi. aaai aiij a. bbbb/ cc");
        m.set(0, 20);
        m.set(1, 2);
        m.set(4, 3);
        // Lines by two: "abcdi. lends 3; aaai (14; with aiij 14+2+10 = 26, too wide) pays 3; then aiij a. (18).
        pageIs("nothing taken back", m, 0, 0, 2, 3, 3, 0, 0);
        m.removeWord(3);
        m.endParagraph(2, true);
        // Now aiij/ would be alone: aaai goes to the next page and pays nothing there.
        pageIs("debt as behind the line ahead", m, 0, 0, 1, 3, 0, 3, 1);
        lineIs("set anew", m, 1, 1, 1, 1, 14, 20, 0, 0, 0, 0, 0, 0, 6);
        LentMargins longer = of("\"abcdi. aaaa i bb/");
        longer.set(0, 20);
        longer.set(1, 2);
        longer.set(4, 3);
        // aaaa pays 3 (own 17) and stands alone; i bb/ (12) would end the paragraph on top of page 1, so aaaa is
        // taken back, and as the first line there it has 20 and takes i too.
        pageIs("page 0", longer, 0, 0, 1, 3, 0, 3, 1);
        lineIs("longer than before", longer, 1, 1, 1, 2, 20, 20, 0, 0, 0, 0, 0, 0, 0);
        check.same("lines", 3, longer.whole(1));
        wordIs("moved word", longer, 2, 1, 2, NONE, NONE, 0, 1, 1, 1, 18);
    }

    /** Whether the next line is a widow is found with what the margins would lend to it on its new page. */
    private void widowThatIsLentTo() {
        LentMargins m = of("aaaaa bbbbb aaaa i./ c");
        m.set(0, 20);
        m.set(1, 2);
        // aaaa i. is 22 and needs 2, which one line behind it pays.
        pageIs("lent, so a widow", m, 0, 0, 1, 0, 0, 0, 1);
        check.same("bbbbb begins the next page", 1, m.line(1, 1));
        m.set(4, 1);
        // Now need 2 is too much: aaaa stands there alone and ends nothing.
        pageIs("not lent, so no widow", m, 0, 0, 2, 0, 0, 0, 0);
        m.set(4, 2);
        m.set(3, 1);
        pageIs("too little lent", m, 0, 0, 2, 0, 0, 0, 0);
    }

    private void whole() {
        LentMargins m = lending();
        m.insert(5, 12, 12, NONE, NONE);
        typeAll(m, "ab");
        // The long word is 56 wide: a line of its own, too wide.
        wholeIs("lending", m, 6, 4, 1, 1, 20, 6, 3, 3, 2, 1, 1, 1, 3, 2);
        m.endParagraph(1, true);
        check.same("paragraphs", 2, m.whole(3));
        m.endParagraph(5, true);
        check.same("the last one counts once", 2, m.whole(3));
        check.refuses("whole -1", m, ARGUMENT, () -> m.whole(-1));
        check.refuses("whole 14", m, ARGUMENT, () -> m.whole(14));
    }

    private void share() {
        LentMargins m = new LentMargins();
        m.setShare(0, 0);
        m.setShare(7, 100);
        check.same("share 0", 0, m.share(0));
        check.same("share 7", 100, m.share(7));
        check.same("share 6", 50, m.share(6));
        check.refuses("share -1", m, INDEX, () -> m.share(-1));
        check.refuses("share 8", m, INDEX, () -> m.share(8));
    }

    private void unevennessAndMean() {
        LentMargins m = lending();
        // Empty widths 0, 4 and 1; the last line ends a paragraph.
        check.same("unevenness", 16, m.unevenness());
        check.sameDouble("mean", 5.0 / 3.0, m.meanEmpty());
        m.endParagraph(2, true);
        check.same("without paragraphs' ends", 0, m.unevenness());
        LentMargins one = of("abc");
        check.sameDouble("mean of one line", 48.0, one.meanEmpty());
        check.same("its end is the paragraph's", 0, one.unevenness());
        LentMargins wide = of("mmmmm a");
        wide.set(0, 20);
        check.same("a line that is too wide has no empty width", 0, wide.unevenness());
        check.sameDouble("mean with it", 8.0, wide.meanEmpty());
    }

    private void whatIf() {
        LentMargins m = lending();
        long before = m.digest();
        check.same("present", 3, m.linesWith(20));
        check.same("all in one", 1, m.linesWith(200));
        // 23+2+8+2+4+2+12+2+4 = 59, of which the quote ahead lends 1.
        check.same("58 is enough", 1, m.linesWith(58));
        check.same("57 is not", 2, m.linesWith(57));
        check.same("unlent", 3, m.linesUnlent());
        check.same("nothing was changed", 1, before == m.digest() ? 1 : 0);
        check.refuses("measure 19", m, ARGUMENT, () -> m.linesWith(19));
        check.refuses("measure 201", m, ARGUMENT, () -> m.linesWith(201));
        LentMargins saves = of("abcd i. a");
        saves.set(0, 20);
        // abcd i. is 22 and needs 2, which is lent; unlent, i. goes to the second line.
        check.same("lent", 2, saves.whole(1));
        check.same("two lines also unlent", 2, saves.linesUnlent());
        saves.insert(3, 0, 3, NONE, NONE);
        // Lent: abcd i. | a abc (pays 2). Unlent: abcd | i. a | abc? i. a is 10, i. a abc 24: three lines.
        check.same("lent, two lines", 2, saves.whole(1));
        check.same("unlent, three lines", 3, saves.linesUnlent());
        unlentOfEachMargin();
        check.same("no words", 0, new LentMargins().linesUnlent());
        check.same("no words, any measure", 0, new LentMargins().linesWith(20));
    }

    private void unlentOfEachMargin() {
        LentMargins m = of("\"aaa i, a abc");
        m.set(0, 20);
        m.set(3, 0);
        // "aaa i, is 21. Unlent: "aaa | i, a | abc, as i, a abc is 24.
        check.same("the quote lends", 1, m.line(0, 5));
        check.same("by the left margin", 2, m.whole(1));
        check.same("unlent it does not", 3, m.linesUnlent());
        m.set(3, 3);
        m.setShare(0, 0);
        check.same("the comma lends", 1, m.line(0, 6));
        check.same("by the right margin", 2, m.whole(1));
        check.same("unlent it does not either", 3, m.linesUnlent());
    }

    private void measureForAndEvenest() {
        LentMargins m = lending();
        check.same("one line", 58, m.measureFor(1));
        check.same("three lines", 20, m.measureFor(3));
        check.same("sixty lines", 20, m.measureFor(60));
        check.refuses("lines 0", m, ARGUMENT, () -> m.measureFor(0));
        check.refuses("lines 61", m, ARGUMENT, () -> m.measureFor(61));
        LentMargins two = of("a/ b");
        check.same("no measure for one line", NONE, two.measureFor(1));
        check.same("two lines", 20, two.measureFor(2));
        check.same("without words", 20, new LentMargins().measureFor(1));
        LentMargins full = of("mmmmmmmmmmmm mmmmmmmmmmmm mmmmmmmmmi");
        // 72 + 2 + 72 + 2 + 56 = 204
        check.same("more than the greatest measure", NONE, full.measureFor(1));
        full.setSigns(2, NONE, NONE);
        full.removeWord(2);
        check.same("146", 146, full.measureFor(1));
        full.insert(2, 12, 11, NONE, NONE);
        // mno..w is 6 + 4 * 6 + 2 + 4 + 4 + 6 = 46; 146 + 2 + 46 = 194, a hyphen and a bracket more: 199.
        check.same("194", 194, full.measureFor(1));
        full.setShare(5, 0);
        full.setShare(1, 0);
        full.setSigns(2, 1, 5);
        check.same("199", 199, full.measureFor(1));
        full.setSigns(2, 0, 0);
        full.setShare(0, 0);
        check.same("200 is the greatest measure", 200, full.measureFor(1));

        check.same("evenest of one", 20, m.evenest(0));
        check.same("of several the least", 40, new LentMargins().evenest(20));
        check.refuses("most -1", m, ARGUMENT, () -> m.evenest(-1));
        check.refuses("most 21", m, ARGUMENT, () -> m.evenest(21));
        LentMargins even = of("aaaa bbb cccc/");
        even.set(0, 20);
        // 20: aaaa 16, bbb 12: 16 + 64. 21 to 27: greater. 30: aaaa bbb: 0.
        check.same("unevenness at 20", 80, even.unevenness());
        check.same("at 9 more", 20, even.evenest(9));
        check.same("at 10 more", 30, even.evenest(10));
        even.set(0, 200);
        check.same("not above 200", 180, even.evenest(20));
        even.set(0, 199);
        check.same("nothing else", 199, even.evenest(0));
        even.set(0, 48);
        // 48: all in one line, 0; 30 is 18 away: 0 as well, and less.
        check.same("the least of the even ones", 30, even.evenest(18));
        check.same("30 is too far", 48, even.evenest(1));
        check.same("nothing is changed", 48, even.whole(4));
        LentMargins top = of("mmmmmmmmmmmm mmmmmmmmmmmm mmmmmmmi mmmmmmmm/");
        top.set(0, 190);
        // 72 + 2 + 72 = 146, with 44 more 192: at 192 the first line is full.
        check.same("up to the greatest", 192, top.evenest(20));
    }

    private void type() {
        LentMargins m = new LentMargins();
        check.same("first byte", 1, m.type(0));
        check.same("second byte", 2, m.type(127));
        check.refuses("byte -1", m, ARGUMENT, () -> m.type(-1));
        check.refuses("byte 128", m, ARGUMENT, () -> m.type(128));
        for (int i = 3; i <= 200; i++) {
            check.same("byte " + i, i, m.type(32));
        }
        check.refuses("byte 201", m, STATE, () -> m.type(32));
        check.refuses("byte 201, wrong", m, ARGUMENT, () -> m.type(128));
        check.refuses("typing is not undoable", m, STATE, m::undo);
        check.same("clear", 200, m.clearText());
        check.same("is empty", 0, m.whole(13));
        check.refuses("clearing is not undoable", m, STATE, m::undo);
        check.same("clear again", 0, m.clearText());
        check.same("from the beginning", 1, m.type(97));
    }

    private void readWords() {
        LentMargins m = new LentMargins();
        m.insert(0, 0, 1, NONE, NONE);
        typeAll(m, "  \"fox!/  (a) b. c, d- e; \"f\" g!/ abcdefghijkl/ ");
        check.same("words", 9, m.readWords());
        check.same("the text stays", 48, m.whole(13));
        wordIs("fox", m, 0, 3, 2 + 4 + 4 + 3 + 2, 0, 7, 1, 0, 0, 0, 0);
        int[][] signs = {{0, 7}, {1, 2}, {NONE, 3}, {NONE, 4}, {NONE, 5}, {NONE, 6}, {0, 0}, {NONE, 7}, {NONE, NONE}};
        for (int i = 0; i < 9; i++) {
            check.same("ahead of " + i, signs[i][0], m.word(i, 2));
            check.same("behind " + i, signs[i][1], m.word(i, 3));
            check.same("end of " + i, i == 0 || i == 7 || i == 8 ? 1 : 0, m.word(i, 4));
        }
        check.same("twelve letters", 12, m.word(8, 0));
        check.same("undo the reading", 1, m.undo());
        check.same("the word of before", 1, m.whole(0));
        check.same("the text is not undone", 48, m.whole(13));
        m.clearText();
        check.same("no words", 0, m.readWords());
        check.same("none are left", 0, m.whole(0));
        check.same("undoable too", 1, m.undo());
        typeAll(m, "   ");
        check.same("spaces only", 0, m.readWords());
        m.clearText();
        typeAll(m, "a!/");
        m.readWords();
        m.clearText();
        typeAll(m, "b");
        m.readWords();
        wordIs("nothing of the word of before", m, 0, 1, 4, NONE, NONE, 0, 0, 0, 0, 0);
        m.clearText();
        typeAll(m, "a b \"");
        long before = m.digest();
        check.same("a fault", -15, m.readWords());
        check.same("changes nothing", 1, before == m.digest() ? 1 : 0);
    }

    private void faults() {
        Object[][] cases = {
            {"", -1}, {" ", -1}, {"a", -1}, {"a/", -1}, {"\"", 1}, {" (", 2}, {"((", 1}, {"\"\"", 1}, {"( a", 1},
            {".", 0}, {")", 0}, {"/", 0}, {"a//", 2}, {"a/b", 2}, {"a.b", 2}, {"a..", 2}, {"a.\"", 2}, {"a\"", -1},
            {"a(", 1}, {"A", 0}, {"a1", 1}, {"a/.", 2}, {"a./", -1}, {"a b c D", 6}, {"abcdefghijkl", -1},
            {"abcdefghijklm", 12}, {"(abcdefghijklm", 13}, {"abcdefghijkl.", -1}, {"`", 0}, {"{", 0}, {"z{", 1},
            {"a\t", 1}, {"\"/", 1}, {"\".", 1}, {"a )", 2}, {"a \"b\"c", 5}, {"a /", 2}, {"a\"\"", 2}
        };
        for (Object[] c : cases) {
            LentMargins m = new LentMargins();
            typeAll(m, (String) c[0]);
            int fault = (Integer) c[1];
            int answer = m.readWords();
            check.same("reading " + c[0], fault < 0 ? m.whole(0) : -10 - fault, answer);
            check.same("reading " + c[0] + " is undoable", fault < 0 ? 1 : 0, saved(m));
        }
        LentMargins sixty = new LentMargins();
        typeAll(sixty, "a ".repeat(60));
        check.same("sixty words", 60, sixty.readWords());
        typeAll(sixty, "   ");
        check.same("spaces behind them", 60, sixty.readWords());
        typeAll(sixty, "\"b");
        check.same("the sixty-first, at its sign", -10 - 123, sixty.readWords());
        LentMargins letter = new LentMargins();
        typeAll(letter, "a ".repeat(60) + "b");
        check.same("the sixty-first, at its letter", -10 - 120, letter.readWords());
    }

    private static int saved(LentMargins m) {
        int saved = 0;
        try {
            for (; saved < 9; saved++) {
                m.undo();
            }
        } catch (IllegalStateException e) {
            return saved;
        }
        return saved;
    }

    private void lineByte() {
        LentMargins m = of("\"ab. c/ (dd)");
        String[] lines = {"\"ab. c", "(dd)"};
        for (int line = 0; line < 2; line++) {
            for (int i = 0; i < 9; i++) {
                int due = i < lines[line].length() ? lines[line].charAt(i) : NONE;
                check.same("byte " + i + " of line " + line, due, m.lineByte(line, i));
            }
        }
        check.same("far behind", NONE, m.lineByte(1, Integer.MAX_VALUE));
        String behind = "\"?).,-;!";
        for (int sign = 0; sign < 8; sign++) {
            if (sign != 1) {
                m.setSigns(1, NONE, sign);
                check.same("sign " + sign, behind.charAt(sign), m.lineByte(0, 6));
            }
        }
        check.refuses("line -1", m, INDEX, () -> m.lineByte(-1, -1));
        check.refuses("line 2", m, INDEX, () -> m.lineByte(2, -1));
        check.refuses("index -1", m, ARGUMENT, () -> m.lineByte(0, -1));
    }

    private void undo() {
        LentMargins m = new LentMargins();
        long[] digests = new long[8];
        for (int i = 0; i < 7; i++) {
            digests[i] = m.digest();
            m.insert(i, i, 1, NONE, NONE);
        }
        for (int i = 0; i < 4; i++) {
            check.same("undo " + i, 3 - i, m.undo());
            check.same("words then", 6 - i, m.whole(0));
        }
        check.refuses("a fifth undo", m, STATE, m::undo);
        check.same("older ones are dropped", 3, m.whole(0));

        LentMargins all = of("a b");
        all.undo();
        all.insert(0, 0, 1, NONE, NONE);
        long start = all.digest();
        all.set(0, 100);
        all.setShare(0, 1);
        all.endParagraph(0, true);
        check.same("undo the end", 3, all.undo());
        check.same("end", 0, all.word(0, 4));
        check.same("undo the share", 2, all.undo());
        check.same("share", 50, all.share(0));
        check.same("undo the setting", 1, all.undo());
        check.same("setting", 60, all.whole(4));
        check.same("all as it was", 1, start == all.digest() ? 1 : 0);
        all.set(0, 60);
        check.same("a call that changes nothing is saved too", 1, all.undo());
        all.setSigns(0, 0, 0);
        all.undo();
        check.same("signs", NONE, all.word(0, 2));
        all.whole(0);
        all.evenest(3);
        all.measureFor(3);
        all.type(97);
        check.same("only marked calls are saved", 0, all.undo());
    }

    private void digest() {
        long due = 43262;
        int[] values = {0, 0, 0, 0, 0, 60, 6, 3, 3, 2, 1, 0, 0, 0, 0, 50, 50, 50, 100, 100, 100, 50, 50};
        for (int value : values) {
            due = 31 * due + value;
        }
        check.same("of a new object", due, new LentMargins().digest());
        LentMargins m = new LentMargins();
        m.insert(0, 0, 1, NONE, 3);
        due = 43262;
        int[] one = {1, 1, 1, 1, 1, 60, 6, 3, 3, 2, 1, 0, 0, 0, 0, 50, 50, 50, 100, 100, 100, 50, 50,
            1, 6, NONE, 3, 0, 0, 0, 0, 0,
            0, 0, 1, 6, 60, 0, 0, 0, 0, 0, 1, 54, 'a', '.',
            0, 1, 0, 0, 0, 0};
        for (int value : one) {
            due = 31 * due + value;
        }
        check.same("with one word", due, m.digest());
        m.insert(1, 1, 1, NONE, NONE);
        due = 43262;
        int[] two = {2, 2, 1, 1, 1, 60, 6, 3, 3, 2, 1, 0, 0, 0, 0, 50, 50, 50, 100, 100, 100, 50, 50,
            1, 6, NONE, 3, 0, 0, 0, 0, 0, 1, 4, NONE, NONE, 0, 0, 1, 0, 8,
            0, 0, 2, 12, 60, 0, 0, 0, 0, 0, 1, 48, 'a', '.', ' ', 'b',
            0, 1, 0, 0, 0, 0};
        for (int value : two) {
            due = 31 * due + value;
        }
        check.same("with two words", due, m.digest());
    }
}
