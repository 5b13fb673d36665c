/** The edges of promises 15 to 18: the what-if questions. */
public final class WhatIfEdgesTest extends Cases {

    public static void main(String[] args) throws IllegalAccessException {
        new WhatIfEdgesTest().runAll();
    }

    /** Four lines at 20, three at 21 and four again at 22: what is lent at 22 must be paid by the third line. */
    private static LentMargins upAndDown() {
        return of(20, "\"abcdi. \"abcdi. (cc) bb");
    }

    /** In one line these words are 200 wide. */
    private static LentMargins twoHundredWide() {
        return of("mmmmmmmmmmmm mmmmmmmmmmmm mmmmmmmma");
    }

    // ---- promise 15: linesWith

    @Sentence(promise = 15, says = "Returns the number of lines with another measure.")
    private void linesWithAnother() {
        LentMargins m = upAndDown();
        check.same("the present one", m.whole(1), m.linesWith(20));
        check.same("one more", 3, m.linesWith(21));
        check.same("two more", 4, m.linesWith(22));
        check.same("the present one still", 20, m.whole(4));
        LentMargins widow = of(20, "\"abcdi. aaaa i/ bb");
        widow.set(1, 2);
        widow.set(4, 3);
        check.same("with widows forbidden", 3, widow.linesWith(20));
        widow.set(5, 0);
        check.same("with widows allowed", 4, widow.linesWith(20));
        widow.set(4, 0);
        check.same("with nothing ever lent", 3, widow.linesWith(20));
        changesNothing("it", Cases::busy, n -> n.linesWith(200));
    }

    @Sentence(promise = 15, says = "measure: 20 to 200")
    private void linesWithMeasure() {
        check.same("least", 2, of("aaaaa a").linesWith(20));
        check.same("greatest", 1, twoHundredWide().linesWith(200));
        check.same("one less", 2, twoHundredWide().linesWith(199));
    }

    @Sentence(promise = 15, says = "Returns the number.")
    private void linesWithReturns() {
        check.same("without words", 0, new LentMargins().linesWith(20));
        check.same("most", 60, oneWordLines(60).linesWith(20));
        check.same("one for each paragraph", 60, of("a/ ".repeat(60)).linesWith(200));
    }

    @Sentence(promise = 15, says = "Throws IllegalArgumentException if measure is out of range")
    private void linesWithRefused() {
        refusesEach("measure", ARGUMENT, new int[] {19, 201, 0, -1, LOWEST, HIGHEST}, LentMargins::linesWith);
        refuses("measure 19 without words", LentMargins::new, ARGUMENT, m -> m.linesWith(19));
    }

    // ---- promise 16: measureFor

    @Sentence(promise = 16, says = "Returns the least measure with which there would be at most so many lines.")
    private void measureForLines() {
        LentMargins m = upAndDown();
        check.same("at most four", 20, m.measureFor(4));
        check.same("at most three", 21, m.measureFor(3));
        check.same("at most sixty", 20, m.measureFor(60));
        check.same("which is not changed", 20, m.whole(4));
        check.same("at most five of five", 20, oneWordLines(5).measureFor(5));
        // Two words in a line are 42 wide, three are 64.
        check.same("at most four of five", 42, oneWordLines(5).measureFor(4));
        check.same("at most two of five", 64, oneWordLines(5).measureFor(2));
        changesNothing("it", Cases::busy, n -> n.measureFor(1));
    }

    @Sentence(promise = 16, says = "lines: 1 to 60")
    private void measureForHowMany() {
        check.same("least", 108, oneWordLines(5).measureFor(1));
        check.same("greatest", 20, oneWordLines(60).measureFor(60));
        check.same("one less", 42, oneWordLines(60).measureFor(59));
    }

    @Sentence(promise = 16, says = "Returns the measure, 20 to 200 (20 without words); NONE if there is none.")
    private void measureForReturns() {
        for (int lines = 1; lines <= 60; lines++) {
            check.same("without words, " + lines, 20, new LentMargins().measureFor(lines));
        }
        check.same("least", 20, of("a").measureFor(1));
        check.same("greatest", 200, twoHundredWide().measureFor(1));
        LentMargins wider = twoHundredWide();
        wider.setSigns(2, NONE, 7);
        check.same("202, of which 1 is lent", NONE, wider.measureFor(1));
        wider.setShare(7, 100);
        check.same("202, of which 2 are lent", 200, wider.measureFor(1));
        wider.setShare(7, 0);
        check.same("202, of which nothing is lent", NONE, wider.measureFor(1));
        // The second of them has 72 and 54.
        check.same("two lines", 128, wider.measureFor(2));
        LentMargins paragraphs = of("a/ ".repeat(60));
        check.same("sixty paragraphs", 20, paragraphs.measureFor(60));
        check.same("they need sixty lines", NONE, paragraphs.measureFor(59));
    }

    @Sentence(promise = 16, says = "Throws IllegalArgumentException if lines is out of range")
    private void measureForRefused() {
        refusesEach("lines", ARGUMENT, new int[] {0, 61, -1, LOWEST, HIGHEST}, LentMargins::measureFor);
        refuses("0 lines without words", LentMargins::new, ARGUMENT, m -> m.measureFor(0));
    }

    @Sentence(promise = 16, says = "NONE is returned only if no exception applies.")
    private void measureForRefusedThoughThereIsNone() {
        refuses("0 lines of sixty paragraphs", () -> of("a/ ".repeat(60)), ARGUMENT, m -> m.measureFor(0));
    }

    // ---- promise 17: linesUnlent

    @Sentence(promise = 17, says = "Returns the number of lines if nothing was ever lent.")
    private void linesUnlentOfWhatIsLent() {
        // Lent: "aaa i, | a abc. Unlent: "aaa | i, a | abc.
        LentMargins m = of(20, "\"aaa i, a abc");
        m.set(2, 10);
        m.set(3, 0);
        check.same("lent by the left margin", 2, m.whole(1));
        check.same("unlent", 3, m.linesUnlent());
        m.set(2, 0);
        m.set(3, 10);
        check.same("lent by the right margin", 2, m.whole(1));
        check.same("unlent", 3, m.linesUnlent());
        m.set(3, 0);
        check.same("lent by none", 3, m.whole(1));
        check.same("the settings stay", 0, m.whole(7));
        changesNothing("it", Cases::busy, LentMargins::linesUnlent);
    }

    @Sentence(promise = 17, says = "Returns the number of lines with the settings 2 and 3 being 0.")
    private void linesUnlentWithBothSettings() {
        check.same("without words", 0, new LentMargins().linesUnlent());
        check.same("most", 60, oneWordLines(60).linesUnlent());
        // Lending costs a line here: what is lent at 22 must be paid.
        LentMargins m = of(22, "\"abcdi. \"abcdi. (cc) bb");
        check.same("lent", 4, m.whole(1));
        check.same("unlent", 3, m.linesUnlent());
        LentMargins both = of(21, "\"aaaa i. a");
        check.same("the other settings stay", 2, both.linesUnlent());
        both.set(0, 200);
        check.same("the measure too", 1, both.linesUnlent());
    }

    // ---- promise 18: evenest

    /** The measures 30 and 48 and all above it leave nothing empty but in the last line. */
    private static LentMargins evenAtThirty(int measure) {
        return of(measure, "aaaa bbb cccc/");
    }

    @Sentence(promise = 18, says = "Returns the measure with the least unevenness, of those that differ from the "
        + "present one by at most some number, and are in their range.")
    private void evenestOfThose() {
        check.same("30 is 10 above", 30, evenAtThirty(20).evenest(10));
        check.same("9 are too few", 20, evenAtThirty(20).evenest(9));
        check.same("30 is 20 below", 30, evenAtThirty(50).evenest(20));
        check.same("19 are too few", 48, evenAtThirty(50).evenest(19));
        LentMargins least = of(25, "aaaaa bbbbb");
        check.same("20 is 5 below", 20, least.evenest(5));
        check.same("4 are too few", 21, least.evenest(4));
        check.same("none is below 20", 20, least.evenest(20));
        LentMargins greatest = of(180, "mmmmmmmmmmmm mmmmmmmmmmmm mmmmmmmma mmmmmmmmmmmm");
        check.same("200 is 20 above", 200, greatest.evenest(20));
        // Of the others, 161 leaves least of the first line, 146 wide, empty.
        check.same("19 are too few", 161, greatest.evenest(19));
        greatest.set(0, 190);
        check.same("none is above 200", 200, greatest.evenest(20));
        greatest.setSigns(2, NONE, 2);
        // It is 202 wide now, of which 1 may be lent.
        check.same("201 is none", 170, greatest.evenest(20));
        changesNothing("it", Cases::busy, n -> n.evenest(20));
    }

    @Sentence(promise = 18, says = "most: 0 to 20")
    private void evenestMost() {
        for (int measure : new int[] {20, 47, 200}) {
            check.same("least", measure, evenAtThirty(measure).evenest(0));
        }
        check.same("greatest", 30, evenAtThirty(50).evenest(20));
    }

    @Sentence(promise = 18, says = "Returns the measure, of several the least one.")
    private void evenestReturnsTheLeast() {
        check.same("30 and 48", 30, evenAtThirty(48).evenest(18));
        check.same("48 and 49", 48, evenAtThirty(49).evenest(1));
        check.same("all above 48", 180, evenAtThirty(200).evenest(20));
        check.same("all without words", 40, new LentMargins().evenest(20));
        check.same("of none but itself", 60, new LentMargins().evenest(0));
        LentMargins m = new LentMargins();
        m.set(0, 30);
        check.same("all from 20", 20, m.evenest(20));
        check.same("all from 21", 21, m.evenest(9));
        m.set(0, 199);
        check.same("all up to 200", 179, m.evenest(20));
    }

    @Sentence(promise = 18, says = "Throws IllegalArgumentException if most is out of range")
    private void evenestRefused() {
        refusesEach("most", ARGUMENT, new int[] {-1, 21, LOWEST, HIGHEST}, LentMargins::evenest);
        refuses("most 21 without words", LentMargins::new, ARGUMENT, m -> m.evenest(21));
    }
}
