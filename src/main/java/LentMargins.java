/**
 * Words with signs, set in lines and pages. A sign at an end of a line may hang into the margin, which lends
 * some width; what is lent on a page is paid back by later lines of the same page.
 */
public final class LentMargins {

    /** Returned where there is no such value. */
    public static final int NONE = -1;

    private static final int MOST_WORDS = 60;
    private static final int MOST_LETTERS = 12;
    private static final int MOST_BYTES = 200;
    private static final int MOST_SAVED = 4;
    private static final int ALPHABET = 26;
    private static final int SIGNS = 8;
    private static final int SPACE_WIDTH = 2;

    private static final int SPACE = 32;
    private static final int SLASH = 47;
    private static final int LETTER_A = 97;

    private static final int MEASURE = 0;
    private static final int PAGE_LINES = 1;
    private static final int LEFT_MOST = 2;
    private static final int RIGHT_MOST = 3;
    private static final int PAY_MOST = 4;
    private static final int WIDOWS_FORBIDDEN = 5;
    private static final int SETTINGS = 6;

    private static final int LINE_PAGE = 0;
    private static final int LINE_FIRST = 1;
    private static final int LINE_WORDS = 2;
    private static final int LINE_NATURAL = 3;
    private static final int LINE_OWN = 4;
    private static final int LINE_LEFT = 5;
    private static final int LINE_RIGHT = 6;
    private static final int LINE_PAID = 7;
    private static final int LINE_DEBT = 8;
    private static final int LINE_WIDE = 9;
    private static final int LINE_ENDS = 10;
    private static final int LINE_EMPTY = 11;
    private static final int LINE_VALUES = 12;

    private static final int PAGE_FIRST = 0;
    private static final int PAGE_COUNT = 1;
    private static final int PAGE_LENT = 2;
    private static final int PAGE_PAID = 3;
    private static final int PAGE_DEBT = 4;
    private static final int PAGE_BACK = 5;
    private static final int PAGE_VALUES = 6;

    private static final int WORD_VALUES = 9;
    private static final int WHOLE_VALUES = 14;

    private static final int[] FIRST_SETTING = {60, 6, 3, 3, 2, 1};
    private static final int[] LEAST_SETTING = {20, 2, 0, 0, 0, 0};
    private static final int[] GREATEST_SETTING = {200, 20, 10, 10, 10, 1};
    private static final int LEAST_MEASURE = 20;
    private static final int GREATEST_MEASURE = 200;

    private static final int[] FIRST_SHARE = {50, 50, 50, 100, 100, 100, 50, 50};
    private static final int[] SIGN_WIDTH = {3, 2, 2, 2, 2, 3, 2, 2};
    private static final int[] SIGN_BYTE = {34, 40, 41, 46, 44, 45, 59, 33};

    /** The widths of the letters a to z. */
    private static final int[] LETTER_WIDTH = {
        4, 4, 4, 4, 4, 2, 4, 4, 2, 2, 4, 2, 6, 4, 4, 4, 4, 4, 4, 2, 4, 4, 6, 4, 4, 4
    };

    private final Script script = new Script();
    private final Layout layout = new Layout();
    /** Lines set for a question only. */
    private final Layout trial = new Layout();
    private final Text text = new Text();
    /** Words read from a text that may yet turn out to have a fault. */
    private final Script draft = new Script();
    private final History history = new History();

    /** Settings as at first, no words, an empty text and an empty undo stack. */
    public LentMargins() {
    }

    // ---- words

    public int insert(int at, int first, int letters, int ahead, int behind)
        throws IndexOutOfBoundsException, IllegalArgumentException, IllegalStateException {
        checkIndex(at, script.count + 1);
        checkRange(first, 0, ALPHABET - 1);
        checkRange(letters, 1, MOST_LETTERS);
        checkSigns(ahead, behind);
        if (script.count >= MOST_WORDS) {
            throw new IllegalStateException("there is no room for another word");
        }
        history.save(script);
        script.open(at);
        for (int i = 0; i < letters; i++) {
            script.addLetter(at, (first + i) % ALPHABET);
        }
        script.putSigns(at, ahead, behind);
        setLines();
        return script.count;
    }

    public int removeWord(int word) throws IndexOutOfBoundsException {
        checkIndex(word, script.count);
        history.save(script);
        script.close(word);
        setLines();
        return script.count;
    }

    public int endParagraph(int word, boolean ends) throws IndexOutOfBoundsException {
        checkIndex(word, script.count);
        history.save(script);
        int before = script.wasSetToEnd(word) ? 1 : 0;
        script.putEnd(word, ends);
        setLines();
        return before;
    }

    public int setSigns(int word, int ahead, int behind) throws IndexOutOfBoundsException, IllegalArgumentException {
        checkIndex(word, script.count);
        checkSigns(ahead, behind);
        history.save(script);
        script.putSigns(word, ahead, behind);
        setLines();
        return script.widthOf(word);
    }

    public int set(int what, int value) throws IllegalArgumentException {
        checkRange(what, 0, SETTINGS - 1);
        checkRange(value, LEAST_SETTING[what], GREATEST_SETTING[what]);
        history.save(script);
        int before = script.setting(what);
        script.settings[what] = value;
        setLines();
        return before;
    }

    public int setShare(int sign, int share) throws IndexOutOfBoundsException, IllegalArgumentException {
        checkIndex(sign, SIGNS);
        checkRange(share, 0, 100);
        history.save(script);
        int before = script.shareOf(sign);
        script.shares[sign] = share;
        setLines();
        return before;
    }

    // ---- values

    public int word(int word, int what) throws IndexOutOfBoundsException, IllegalArgumentException {
        checkIndex(word, script.count);
        checkRange(what, 0, WORD_VALUES - 1);
        return wordValue(word, what);
    }

    public int line(int line, int what) throws IndexOutOfBoundsException, IllegalArgumentException {
        checkIndex(line, layout.lines);
        checkRange(what, 0, LINE_VALUES - 1);
        return layout.lineValue(line, what);
    }

    public int page(int page, int what) throws IndexOutOfBoundsException, IllegalArgumentException {
        checkIndex(page, layout.pages);
        checkRange(what, 0, PAGE_VALUES - 1);
        return layout.pageValue(page, what);
    }

    public int whole(int what) throws IllegalArgumentException {
        checkRange(what, 0, WHOLE_VALUES - 1);
        return wholeValue(what);
    }

    public int share(int sign) throws IndexOutOfBoundsException {
        checkIndex(sign, SIGNS);
        return script.shareOf(sign);
    }

    public int unevenness() {
        return layout.squaresOfEmpty();
    }

    public double meanEmpty() {
        if (layout.lines <= 0) {
            return 0.0;
        }
        return (double) layout.sumOf(LINE_EMPTY) / (double) layout.lines;
    }

    // ---- what if, which changes nothing

    public int linesWith(int measure) throws IllegalArgumentException {
        checkRange(measure, LEAST_MEASURE, GREATEST_MEASURE);
        tryMeasure(measure);
        return trial.lines;
    }

    public int measureFor(int lines) throws IllegalArgumentException {
        checkRange(lines, 1, MOST_WORDS);
        for (int measure = LEAST_MEASURE; measure <= GREATEST_MEASURE; measure++) {
            tryMeasure(measure);
            if (trial.lines <= lines) {
                return measure;
            }
        }
        return NONE;
    }

    public int linesUnlent() {
        trial.arrange(script, script.setting(MEASURE), 0, 0);
        return trial.lines;
    }

    public int evenest(int most) throws IllegalArgumentException {
        checkRange(most, 0, 20);
        int present = script.setting(MEASURE);
        int last = Math.min(GREATEST_MEASURE, present + most);
        int best = NONE;
        int least = 0;
        for (int measure = Math.max(LEAST_MEASURE, present - most); measure <= last; measure++) {
            tryMeasure(measure);
            int squares = trial.squaresOfEmpty();
            if (best == NONE || squares < least) {
                least = squares;
                best = measure;
            }
        }
        return best;
    }

    // ---- text, undo and checksum

    public int type(int value) throws IllegalArgumentException, IllegalStateException {
        checkRange(value, 0, 127);
        if (text.length >= MOST_BYTES) {
            throw new IllegalStateException("the text is full");
        }
        text.append(value);
        return text.length;
    }

    public int clearText() {
        int before = text.length;
        text.length = 0;
        return before;
    }

    public int readWords() {
        int fault = text.readInto(draft);
        if (fault != NONE) {
            return -10 - fault;
        }
        history.save(script);
        script.takeWords(draft);
        setLines();
        return script.count;
    }

    public int lineByte(int line, int index) throws IndexOutOfBoundsException, IllegalArgumentException {
        checkIndex(line, layout.lines);
        if (index < 0) {
            throw new IllegalArgumentException("the index is negative");
        }
        return writtenByte(line, index);
    }

    public int undo() throws IllegalStateException {
        if (history.count <= 0) {
            throw new IllegalStateException("nothing is saved");
        }
        history.restore(script);
        setLines();
        return history.count;
    }

    public long digest() {
        long hash = mix(43262, history.count);
        for (int what = 0; what < WHOLE_VALUES; what++) {
            hash = mix(hash, wholeValue(what));
        }
        for (int sign = 0; sign < SIGNS; sign++) {
            hash = mix(hash, script.shareOf(sign));
        }
        hash = mixWords(hash);
        hash = mixLines(hash);
        return mixPages(hash);
    }

    // ---- what the methods above share

    private static void checkIndex(int index, int count) {
        if (index < 0 || index >= count) {
            throw new IndexOutOfBoundsException("there is none of this number");
        }
    }

    private static void checkRange(int value, int least, int greatest) {
        if (value < least || value > greatest) {
            throw new IllegalArgumentException("an argument is out of range");
        }
    }

    private static void checkSigns(int ahead, int behind) {
        if (ahead != NONE && !mayStandAhead(ahead) || behind != NONE && !mayStandBehind(behind)) {
            throw new IllegalArgumentException("such a sign cannot stand there");
        }
    }

    private static boolean mayStandAhead(int sign) {
        return sign == 0 || sign == 1;
    }

    private static boolean mayStandBehind(int sign) {
        return sign == 0 || sign >= 2 && sign < SIGNS;
    }

    private static int signWidth(int sign) {
        return sign >= 0 && sign < SIGNS ? SIGN_WIDTH[sign] : 0;
    }

    private static int signByte(int sign) {
        return sign >= 0 && sign < SIGNS ? SIGN_BYTE[sign] : NONE;
    }

    private void setLines() {
        layout.arrange(script, script.setting(MEASURE), script.setting(LEFT_MOST), script.setting(RIGHT_MOST));
    }

    private void tryMeasure(int measure) {
        trial.arrange(script, measure, script.setting(LEFT_MOST), script.setting(RIGHT_MOST));
    }

    private int wordValue(int word, int what) {
        int line = layout.lineOfWord(word);
        switch (what) {
            case 0:
                return script.lengthOf(word);
            case 1:
                return script.widthOf(word);
            case 2:
                return script.aheadOf(word);
            case 3:
                return script.behindOf(word);
            case 4:
                return script.wasSetToEnd(word) ? 1 : 0;
            case 5:
                return line;
            case 6:
                return word - layout.lineValue(line, LINE_FIRST);
            case 7:
                return layout.lineValue(line, LINE_PAGE);
            default:
                return leftEdge(line, word);
        }
    }

    private int leftEdge(int line, int word) {
        int edge = -layout.lineValue(line, LINE_LEFT);
        for (int i = layout.lineValue(line, LINE_FIRST); i < word; i++) {
            edge += script.widthOf(i) + SPACE_WIDTH;
        }
        return edge;
    }

    private int wholeValue(int what) {
        switch (what) {
            case 0:
                return script.count;
            case 1:
                return layout.lines;
            case 2:
                return layout.pages;
            case 3:
                return script.paragraphs();
            case 10:
                return layout.lendingLines();
            case 11:
                return layout.sumOf(LINE_WIDE);
            case 12:
                return layout.sumOf(LINE_LEFT) + layout.sumOf(LINE_RIGHT);
            case 13:
                return text.length;
            default:
                return script.setting(what - 4);
        }
    }

    private int writtenByte(int line, int index) {
        int first = layout.lineValue(line, LINE_FIRST);
        int words = layout.lineValue(line, LINE_WORDS);
        int rest = index;
        for (int i = 0; i < words; i++) {
            int written = script.writtenLength(first + i);
            if (rest < written) {
                return script.writtenByteOf(first + i, rest);
            }
            if (rest == written) {
                return i + 1 < words ? SPACE : NONE;
            }
            rest -= written + 1;
        }
        return NONE;
    }

    private int writtenLength(int line) {
        int first = layout.lineValue(line, LINE_FIRST);
        int words = layout.lineValue(line, LINE_WORDS);
        int length = Math.max(0, words - 1);
        for (int i = 0; i < words; i++) {
            length += script.writtenLength(first + i);
        }
        return length;
    }

    private static long mix(long hash, int value) {
        return 31 * hash + value;
    }

    private long mixWords(long start) {
        long hash = start;
        for (int word = 0; word < script.count; word++) {
            for (int what = 0; what < WORD_VALUES; what++) {
                hash = mix(hash, wordValue(word, what));
            }
        }
        return hash;
    }

    private long mixLines(long start) {
        long hash = start;
        for (int line = 0; line < layout.lines; line++) {
            for (int what = 0; what < LINE_VALUES; what++) {
                hash = mix(hash, layout.lineValue(line, what));
            }
            int length = writtenLength(line);
            for (int index = 0; index < length; index++) {
                hash = mix(hash, writtenByte(line, index));
            }
        }
        return hash;
    }

    private long mixPages(long start) {
        long hash = start;
        for (int page = 0; page < layout.pages; page++) {
            for (int what = 0; what < PAGE_VALUES; what++) {
                hash = mix(hash, layout.pageValue(page, what));
            }
        }
        return hash;
    }

    /** All that undo brings back: the words, the settings and the shares. */
    private static final class Script {
        int count;
        private final int[] letters = new int[MOST_WORDS * MOST_LETTERS];
        private final int[] lengths = new int[MOST_WORDS];
        /** The widths of the letters, without the signs. */
        private final int[] bodies = new int[MOST_WORDS];
        private final int[] ahead = new int[MOST_WORDS];
        private final int[] behind = new int[MOST_WORDS];
        private final boolean[] ends = new boolean[MOST_WORDS];
        final int[] settings = FIRST_SETTING.clone();
        final int[] shares = FIRST_SHARE.clone();

        private boolean has(int word) {
            return word >= 0 && word < count && word < MOST_WORDS;
        }

        void takeAll(Script other) {
            takeWords(other);
            System.arraycopy(other.settings, 0, settings, 0, SETTINGS);
            System.arraycopy(other.shares, 0, shares, 0, SIGNS);
        }

        void takeWords(Script other) {
            count = other.count;
            System.arraycopy(other.letters, 0, letters, 0, MOST_WORDS * MOST_LETTERS);
            System.arraycopy(other.lengths, 0, lengths, 0, MOST_WORDS);
            System.arraycopy(other.bodies, 0, bodies, 0, MOST_WORDS);
            System.arraycopy(other.ahead, 0, ahead, 0, MOST_WORDS);
            System.arraycopy(other.behind, 0, behind, 0, MOST_WORDS);
            System.arraycopy(other.ends, 0, ends, 0, MOST_WORDS);
        }

        /** Makes room for a word without letters and signs. */
        void open(int at) {
            if (at < 0 || at > count || count >= MOST_WORDS) {
                return;
            }
            move(at, at + 1, count - at);
            count++;
            lengths[at] = 0;
            bodies[at] = 0;
            ahead[at] = NONE;
            behind[at] = NONE;
            ends[at] = false;
        }

        void close(int word) {
            if (!has(word)) {
                return;
            }
            move(word + 1, word, count - word - 1);
            count--;
        }

        private void move(int from, int to, int words) {
            if (from < 0 || to < 0 || words < 0 || Math.max(from, to) + words > MOST_WORDS) {
                return;
            }
            System.arraycopy(letters, from * MOST_LETTERS, letters, to * MOST_LETTERS, words * MOST_LETTERS);
            System.arraycopy(lengths, from, lengths, to, words);
            System.arraycopy(bodies, from, bodies, to, words);
            System.arraycopy(ahead, from, ahead, to, words);
            System.arraycopy(behind, from, behind, to, words);
            System.arraycopy(ends, from, ends, to, words);
        }

        /** Puts a letter, 0 for a, behind the others of a word; false if it has no room for it. */
        boolean addLetter(int word, int letter) {
            if (!has(word) || letter < 0 || letter >= ALPHABET) {
                return false;
            }
            int length = lengths[word];
            if (length < 0 || length >= MOST_LETTERS) {
                return false;
            }
            letters[word * MOST_LETTERS + length] = letter;
            lengths[word] = length + 1;
            bodies[word] += LETTER_WIDTH[letter];
            return true;
        }

        void putSigns(int word, int signAhead, int signBehind) {
            if (has(word)) {
                ahead[word] = signAhead;
                behind[word] = signBehind;
            }
        }

        void putEnd(int word, boolean end) {
            if (has(word)) {
                ends[word] = end;
            }
        }

        int setting(int what) {
            return what >= 0 && what < SETTINGS ? settings[what] : 0;
        }

        int shareOf(int sign) {
            return sign >= 0 && sign < SIGNS ? shares[sign] : 0;
        }

        int overhang(int sign) {
            return signWidth(sign) * shareOf(sign) / 100;
        }

        int lengthOf(int word) {
            return has(word) ? lengths[word] : 0;
        }

        int widthOf(int word) {
            return has(word) ? bodies[word] + signWidth(ahead[word]) + signWidth(behind[word]) : 0;
        }

        int aheadOf(int word) {
            return has(word) ? ahead[word] : NONE;
        }

        int behindOf(int word) {
            return has(word) ? behind[word] : NONE;
        }

        boolean wasSetToEnd(int word) {
            return has(word) && ends[word];
        }

        /** The last word of all ends a paragraph also if it was not set to. */
        boolean endsParagraph(int word) {
            return has(word) && (ends[word] || word == count - 1);
        }

        int paragraphs() {
            int paragraphs = 0;
            for (int word = 0; word < count; word++) {
                if (endsParagraph(word)) {
                    paragraphs++;
                }
            }
            return paragraphs;
        }

        int writtenLength(int word) {
            int signs = (aheadOf(word) == NONE ? 0 : 1) + (behindOf(word) == NONE ? 0 : 1);
            return lengthOf(word) + signs;
        }

        int writtenByteOf(int word, int index) {
            int sign = aheadOf(word);
            if (sign != NONE && index == 0) {
                return signByte(sign);
            }
            int place = sign == NONE ? index : index - 1;
            if (!has(word) || place < 0 || place > lengths[word]) {
                return NONE;
            }
            if (place < lengths[word] && place < MOST_LETTERS) {
                return LETTER_A + letters[word * MOST_LETTERS + place];
            }
            return signByte(behind[word]);
        }
    }

    /** One line: the row of words that it takes, what it pays and what it is lent. */
    private static final class Row {
        int words;
        int natural;
        int own;
        int left;
        int right;
        int paid;
        int debt;
        boolean wide;

        int lent() {
            return left + right;
        }

        int empty() {
            return wide ? 0 : own + lent() - natural;
        }

        /** Takes the longest row that fits from a word on; later is the number of lines behind on a full page. */
        void choose(Script script, int[] settings, int first, int debtAhead, int later) {
            paid = Math.min(debtAhead, settings[PAY_MOST]);
            own = settings[MEASURE] - paid;
            takeFirstAlone(script.widthOf(first));
            int debtLeft = debtAhead - paid;
            int mostNeed = settings[PAY_MOST] * later - debtLeft;
            int leftCould = Math.min(script.overhang(script.aheadOf(first)), settings[LEFT_MOST]);
            int width = -SPACE_WIDTH;
            for (int word = first; word < script.count; word++) {
                width += SPACE_WIDTH + script.widthOf(word);
                int need = Math.max(0, width - own);
                // A longer row only needs more, so none behind this one could fit.
                if (need > settings[LEFT_MOST] + settings[RIGHT_MOST]) {
                    break;
                }
                int rightCould = Math.min(script.overhang(script.behindOf(word)), settings[RIGHT_MOST]);
                if (need == 0 || need <= leftCould + rightCould && need <= mostNeed) {
                    take(word - first + 1, width, need, rightCould);
                }
                if (script.endsParagraph(word)) {
                    break;
                }
            }
            debt = debtLeft + lent();
        }

        private void takeFirstAlone(int width) {
            words = 1;
            natural = width;
            left = 0;
            right = 0;
            wide = true;
        }

        private void take(int taken, int width, int need, int rightCould) {
            words = taken;
            natural = width;
            right = Math.min(need, rightCould);
            left = need - right;
            wide = false;
        }
    }

    /** The lines and pages of a script. */
    private static final class Layout {
        int lines;
        int pages;
        private final int[] lineValues = new int[MOST_WORDS * LINE_VALUES];
        private final int[] pageValues = new int[MOST_WORDS * PAGE_VALUES];
        private final int[] lineOf = new int[MOST_WORDS];
        private final int[] settings = new int[SETTINGS];
        private final Row row = new Row();

        /** Sets all lines with the settings of the script but for those that are given. */
        void arrange(Script script, int measure, int leftMost, int rightMost) {
            System.arraycopy(script.settings, 0, settings, 0, SETTINGS);
            settings[MEASURE] = measure;
            settings[LEFT_MOST] = leftMost;
            settings[RIGHT_MOST] = rightMost;
            lines = 0;
            pages = 0;
            int next = 0;
            for (int page = 0; page < MOST_WORDS && next < script.count; page++) {
                next = fillPage(script, next);
            }
        }

        /** Sets a page from a word on; returns the first word that is not on it. */
        private int fillPage(Script script, int first) {
            int firstLine = lines;
            int full = settings[PAGE_LINES];
            int next = first;
            int debt = 0;
            for (int place = 0; place < full && next < script.count; place++) {
                row.choose(script, settings, next, debt, full - 1 - place);
                addLine(next, script.endsParagraph(next + row.words - 1));
                next += row.words;
                debt = row.debt;
            }
            boolean back = false;
            if (next < script.count && mayGiveBack(firstLine)) {
                row.choose(script, settings, next, 0, full - 1);
                back = script.endsParagraph(next + row.words - 1);
            }
            if (back) {
                lines--;
                next = lineValue(lines, LINE_FIRST);
            }
            addPage(firstLine, back);
            return next;
        }

        /** Whether the page would give its last line back, should the next page begin with a widow. */
        private boolean mayGiveBack(int firstLine) {
            int count = lines - firstLine;
            boolean full = count == settings[PAGE_LINES];
            return settings[WIDOWS_FORBIDDEN] == 1 && full && count > 1 && lineValue(lines - 1, LINE_ENDS) == 0;
        }

        private void addLine(int first, boolean ends) {
            if (lines >= MOST_WORDS) {
                return;
            }
            int at = lines * LINE_VALUES;
            lineValues[at + LINE_PAGE] = pages;
            lineValues[at + LINE_FIRST] = first;
            lineValues[at + LINE_WORDS] = row.words;
            lineValues[at + LINE_NATURAL] = row.natural;
            lineValues[at + LINE_OWN] = row.own;
            lineValues[at + LINE_LEFT] = row.left;
            lineValues[at + LINE_RIGHT] = row.right;
            lineValues[at + LINE_PAID] = row.paid;
            lineValues[at + LINE_DEBT] = row.debt;
            lineValues[at + LINE_WIDE] = row.wide ? 1 : 0;
            lineValues[at + LINE_ENDS] = ends ? 1 : 0;
            lineValues[at + LINE_EMPTY] = row.empty();
            for (int word = Math.max(0, first); word < first + row.words && word < MOST_WORDS; word++) {
                lineOf[word] = lines;
            }
            lines++;
        }

        private void addPage(int firstLine, boolean back) {
            if (pages >= MOST_WORDS) {
                return;
            }
            int lent = 0;
            int paid = 0;
            for (int line = firstLine; line < lines; line++) {
                lent += lentTo(line);
                paid += lineValue(line, LINE_PAID);
            }
            int at = pages * PAGE_VALUES;
            pageValues[at + PAGE_FIRST] = firstLine;
            pageValues[at + PAGE_COUNT] = lines - firstLine;
            pageValues[at + PAGE_LENT] = lent;
            pageValues[at + PAGE_PAID] = paid;
            pageValues[at + PAGE_DEBT] = lineValue(lines - 1, LINE_DEBT);
            pageValues[at + PAGE_BACK] = back ? 1 : 0;
            pages++;
        }

        /** Answers also for the line just taken back, whose values still stand. */
        int lineValue(int line, int what) {
            if (line < 0 || line >= MOST_WORDS || what < 0 || what >= LINE_VALUES) {
                return 0;
            }
            return lineValues[line * LINE_VALUES + what];
        }

        int pageValue(int page, int what) {
            if (page < 0 || page >= MOST_WORDS || what < 0 || what >= PAGE_VALUES) {
                return 0;
            }
            return pageValues[page * PAGE_VALUES + what];
        }

        int lineOfWord(int word) {
            return word >= 0 && word < MOST_WORDS ? lineOf[word] : 0;
        }

        private int lentTo(int line) {
            return lineValue(line, LINE_LEFT) + lineValue(line, LINE_RIGHT);
        }

        int sumOf(int what) {
            int sum = 0;
            for (int line = 0; line < lines; line++) {
                sum += lineValue(line, what);
            }
            return sum;
        }

        int lendingLines() {
            int lending = 0;
            for (int line = 0; line < lines; line++) {
                if (lentTo(line) > 0) {
                    lending++;
                }
            }
            return lending;
        }

        int squaresOfEmpty() {
            int sum = 0;
            for (int line = 0; line < lines; line++) {
                int empty = lineValue(line, LINE_EMPTY);
                if (lineValue(line, LINE_ENDS) == 0) {
                    sum += empty * empty;
                }
            }
            return sum;
        }
    }

    /** The latest saved scripts, whose rows are made once and used again. */
    private static final class History {
        int count;
        private final Script[] saved = {new Script(), new Script(), new Script(), new Script()};

        void save(Script script) {
            if (count >= MOST_SAVED) {
                dropOldest();
            }
            Script slot = slot(count);
            if (slot != null) {
                slot.takeAll(script);
                count++;
            }
        }

        void restore(Script script) {
            Script slot = slot(count - 1);
            if (slot != null) {
                script.takeAll(slot);
                count--;
            }
        }

        private Script slot(int index) {
            return index >= 0 && index < saved.length ? saved[index] : null;
        }

        /** Moves the oldest slot to the top, where the next save overwrites it. */
        private void dropOldest() {
            Script oldest = slot(0);
            for (int i = 1; i < saved.length; i++) {
                saved[i - 1] = saved[i];
            }
            if (saved.length > 0) {
                saved[saved.length - 1] = oldest;
            }
            count--;
        }
    }

    /** The typed bytes, and how they are read as words. */
    private static final class Text {
        private static final int BETWEEN = 0;
        private static final int SIGN_AHEAD = 1;
        private static final int IN_WORD = 2;
        private static final int SIGN_BEHIND = 3;
        private static final int PARAGRAPH_ENDED = 4;

        int length;
        private final int[] bytes = new int[MOST_BYTES];
        /** What the byte read last was. */
        private int state;

        void append(int value) {
            if (length >= 0 && length < MOST_BYTES) {
                bytes[length] = value;
                length++;
            }
        }

        /** Puts the words into the draft; returns the fault, or NONE. */
        int readInto(Script draft) {
            draft.count = 0;
            state = BETWEEN;
            for (int i = 0; i < length && i < MOST_BYTES; i++) {
                if (!accepts(bytes[i], draft)) {
                    return i;
                }
            }
            return state == SIGN_AHEAD ? length : NONE;
        }

        private boolean accepts(int value, Script draft) {
            if (value == SPACE) {
                boolean allowed = state != SIGN_AHEAD;
                state = BETWEEN;
                return allowed;
            }
            switch (state) {
                case BETWEEN:
                    return beginsWord(value, draft);
                case SIGN_AHEAD:
                    state = IN_WORD;
                    return draft.addLetter(draft.count - 1, value - LETTER_A);
                case IN_WORD:
                    return draft.addLetter(draft.count - 1, value - LETTER_A)
                        || hasSignBehind(value, draft) || endsHere(value, draft);
                case SIGN_BEHIND:
                    return endsHere(value, draft);
                default:
                    return false;
            }
        }

        private boolean beginsWord(int value, Script draft) {
            if (draft.count >= MOST_WORDS) {
                return false;
            }
            int word = draft.count;
            draft.open(word);
            for (int sign = 0; sign < SIGNS; sign++) {
                if (mayStandAhead(sign) && value == SIGN_BYTE[sign]) {
                    draft.putSigns(word, sign, NONE);
                    state = SIGN_AHEAD;
                    return true;
                }
            }
            state = IN_WORD;
            return draft.addLetter(word, value - LETTER_A);
        }

        private boolean hasSignBehind(int value, Script draft) {
            int word = draft.count - 1;
            for (int sign = 0; sign < SIGNS; sign++) {
                if (mayStandBehind(sign) && value == SIGN_BYTE[sign]) {
                    draft.putSigns(word, draft.aheadOf(word), sign);
                    state = SIGN_BEHIND;
                    return true;
                }
            }
            return false;
        }

        private boolean endsHere(int value, Script draft) {
            if (value != SLASH) {
                return false;
            }
            draft.putEnd(draft.count - 1, true);
            state = PARAGRAPH_ENDED;
            return true;
        }
    }
}
