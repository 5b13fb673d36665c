import java.util.ArrayDeque;
import java.util.ArrayList;
import java.util.Arrays;
import java.util.Deque;
import java.util.List;
import java.util.regex.Matcher;
import java.util.regex.Pattern;

/**
 * The document told a second time, as literally as possible and without a thought of speed: the random runs
 * compare the class with it. Exceptions are answered as texts.
 */
final class Model {
    static final String INDEX = "IndexOutOfBoundsException";
    static final String ARGUMENT = "IllegalArgumentException";
    static final String STATE = "IllegalStateException";

    record Word(String letters, int ahead, int behind, boolean ends) {
        int width() {
            int width = (ahead < 0 ? 0 : SIGN_WIDTHS[ahead]) + (behind < 0 ? 0 : SIGN_WIDTHS[behind]);
            for (char c : letters.toCharArray()) {
                width += "fijlt".indexOf(c) >= 0 ? 2 : "mw".indexOf(c) >= 0 ? 6 : 4;
            }
            return width;
        }

        String written() {
            return byteOf(ahead) + letters + byteOf(behind);
        }

        private static String byteOf(int sign) {
            return sign < 0 ? "" : "" + BYTES.charAt(sign);
        }
    }

    record State(List<Word> words, int[] settings, int[] shares) {
        State copy() {
            return new State(new ArrayList<>(words), settings.clone(), shares.clone());
        }

        boolean ends(int word) {
            return words.get(word).ends() || word == words.size() - 1;
        }
    }

    record Line(int first, int count, int natural, int own, int left, int right, int paid, int debt, boolean wide,
                boolean ends) {
        int empty() {
            return wide ? 0 : own + left + right - natural;
        }
    }

    record Page(List<Line> lines, boolean back) {
    }

    private static final int[] SIGN_WIDTHS = {3, 2, 2, 2, 2, 3, 2, 2};
    private static final String BYTES = "\"().,-;!";
    private static final int[] LOW = {20, 2, 0, 0, 0, 0};
    private static final int[] HIGH = {200, 20, 10, 10, 10, 1};
    private static final String WORD = "[\"(]?[a-z]{1,12}[\").,\\-;!]?/?";
    private static final Pattern TEXT = Pattern.compile(" *(" + WORD + "( +" + WORD + "){0,59} *)?");

    State state = new State(new ArrayList<>(), new int[] {60, 6, 3, 3, 2, 1},
        new int[] {50, 50, 50, 100, 100, 100, 50, 50});
    String text = "";
    final Deque<State> saved = new ArrayDeque<>();
    static int linesBack;
    static int linesLent;
    static int linesWide;
    static int rowsRefusedByDebt;

    private void save() {
        saved.addLast(state.copy());
        if (saved.size() > 4) {
            saved.removeFirst();
        }
    }

    private static boolean out(int value, int low, int high) {
        return value < low || value > high;
    }

    private static boolean badSigns(int ahead, int behind) {
        return out(ahead, -1, 1) || out(behind, -1, 7) || behind == 1;
    }

    Object insert(int at, int first, int letters, int ahead, int behind) {
        if (out(at, 0, state.words.size())) {
            return INDEX;
        }
        if (out(first, 0, 25) || out(letters, 1, 12) || badSigns(ahead, behind)) {
            return ARGUMENT;
        }
        if (state.words.size() == 60) {
            return STATE;
        }
        save();
        String alphabet = "abcdefghijklmnopqrstuvwxyzabcdefghijklmnopqrstuvwxyz";
        state.words.add(at, new Word(alphabet.substring(first, first + letters), ahead, behind, false));
        return (long) state.words.size();
    }

    private boolean noWord(int word) {
        return out(word, 0, state.words.size() - 1);
    }

    Object removeWord(int word) {
        if (noWord(word)) {
            return INDEX;
        }
        save();
        state.words.remove(word);
        return (long) state.words.size();
    }

    Object endParagraph(int word, boolean ends) {
        if (noWord(word)) {
            return INDEX;
        }
        save();
        Word w = state.words.get(word);
        state.words.set(word, new Word(w.letters, w.ahead, w.behind, ends));
        return w.ends ? 1L : 0L;
    }

    Object setSigns(int word, int ahead, int behind) {
        if (noWord(word)) {
            return INDEX;
        }
        if (badSigns(ahead, behind)) {
            return ARGUMENT;
        }
        save();
        Word w = state.words.get(word);
        state.words.set(word, new Word(w.letters, ahead, behind, w.ends));
        return (long) state.words.get(word).width();
    }

    Object set(int what, int value) {
        if (out(what, 0, 5) || out(value, LOW[what], HIGH[what])) {
            return ARGUMENT;
        }
        save();
        int before = state.settings[what];
        state.settings[what] = value;
        return (long) before;
    }

    Object setShare(int sign, int share) {
        if (out(sign, 0, 7)) {
            return INDEX;
        }
        if (out(share, 0, 100)) {
            return ARGUMENT;
        }
        save();
        int before = state.shares[sign];
        state.shares[sign] = share;
        return (long) before;
    }

    // ---- setting the lines

    private int overhang(int sign) {
        return sign < 0 ? 0 : SIGN_WIDTHS[sign] * state.shares[sign] / 100;
    }

    private Line lineFrom(int first, int debt, int behindOnFullPage, int[] settings) {
        int paid = Math.min(debt, settings[4]);
        int own = settings[0] - paid;
        List<Line> fitting = new ArrayList<>();
        int natural = 0;
        for (int last = first; last < state.words.size(); last++) {
            natural += state.words.get(last).width() + (last == first ? 0 : 2);
            int left = Math.min(overhang(state.words.get(first).ahead()), settings[2]);
            int right = Math.min(overhang(state.words.get(last).behind()), settings[3]);
            int need = Math.max(0, natural - own);
            boolean lends = need <= left + right;
            boolean payable = debt - paid + need <= settings[4] * behindOnFullPage;
            if (need > 0 && lends && !payable) {
                rowsRefusedByDebt++;
            }
            if (need == 0 || lends && payable) {
                int fromRight = Math.min(need, right);
                fitting.add(new Line(first, last - first + 1, natural, own, need - fromRight, fromRight, paid,
                    debt - paid + need, false, state.ends(last)));
            }
            if (state.ends(last)) {
                break;
            }
        }
        if (fitting.isEmpty()) {
            return new Line(first, 1, state.words.get(first).width(), own, 0, 0, paid, debt - paid, true,
                state.ends(first));
        }
        return fitting.get(fitting.size() - 1);
    }

    List<Page> pagesWith(int[] settings) {
        List<Page> pages = new ArrayList<>();
        int next = 0;
        while (next < state.words.size()) {
            List<Line> lines = new ArrayList<>();
            int debt = 0;
            boolean back = false;
            while (next < state.words.size() && lines.size() < settings[1]) {
                Line line = lineFrom(next, debt, settings[1] - lines.size() - 1, settings);
                lines.add(line);
                debt = line.debt;
                next += line.count;
            }
            Line last = lines.get(lines.size() - 1);
            if (settings[5] == 1 && lines.size() == settings[1] && !last.ends && lines.size() > 1
                && lineFrom(next, 0, settings[1] - 1, settings).ends) {
                lines.remove(last);
                next = last.first;
                back = true;
                linesBack++;
            }
            pages.add(new Page(lines, back));
        }
        return pages;
    }

    List<Line> linesOf(List<Page> pages) {
        List<Line> lines = new ArrayList<>();
        for (Page page : pages) {
            lines.addAll(page.lines);
        }
        return lines;
    }

    private int pageOf(List<Page> pages, int line) {
        int page = 0;
        int rest = line;
        while (rest >= pages.get(page).lines.size()) {
            rest -= pages.get(page).lines.size();
            page++;
        }
        return page;
    }

    private int[] with(int what, int value) {
        int[] settings = state.settings.clone();
        settings[what] = value;
        return settings;
    }

    // ---- values

    Object word(int word, int what) {
        if (noWord(word)) {
            return INDEX;
        }
        if (out(what, 0, 8)) {
            return ARGUMENT;
        }
        return wordValues(word, pagesWith(state.settings))[what];
    }

    private long[] wordValues(int word, List<Page> pages) {
        List<Line> lines = linesOf(pages);
        int number = 0;
        while (lines.get(number).first + lines.get(number).count <= word) {
            number++;
        }
        Line line = lines.get(number);
        int edge = -line.left;
        for (int i = line.first; i < word; i++) {
            edge += state.words.get(i).width() + 2;
        }
        Word w = state.words.get(word);
        return new long[] {w.letters.length(), w.width(), w.ahead, w.behind, w.ends ? 1 : 0, number,
            word - line.first, pageOf(pages, number), edge};
    }

    Object line(int line, int what) {
        List<Page> pages = pagesWith(state.settings);
        if (out(line, 0, linesOf(pages).size() - 1)) {
            return INDEX;
        }
        if (out(what, 0, 11)) {
            return ARGUMENT;
        }
        return lineValues(line, pages)[what];
    }

    private long[] lineValues(int number, List<Page> pages) {
        Line line = linesOf(pages).get(number);
        linesWide += line.wide ? 1 : 0;
        linesLent += line.left + line.right > 0 ? 1 : 0;
        return new long[] {pageOf(pages, number), line.first, line.count, line.natural, line.own, line.left,
            line.right, line.paid, line.debt, line.wide ? 1 : 0, line.ends ? 1 : 0, line.empty()};
    }

    Object page(int page, int what) {
        List<Page> pages = pagesWith(state.settings);
        if (out(page, 0, pages.size() - 1)) {
            return INDEX;
        }
        if (out(what, 0, 5)) {
            return ARGUMENT;
        }
        return pageValues(page, pages)[what];
    }

    private long[] pageValues(int number, List<Page> pages) {
        int first = linesOf(pages.subList(0, number)).size();
        Page page = pages.get(number);
        int lent = 0;
        int paid = 0;
        for (Line line : page.lines) {
            lent += line.left + line.right;
            paid += line.paid;
        }
        return new long[] {first, page.lines.size(), lent, paid, page.lines.get(page.lines.size() - 1).debt,
            page.back ? 1 : 0};
    }

    Object whole(int what) {
        return out(what, 0, 13) ? ARGUMENT : (Object) wholeValues(pagesWith(state.settings))[what];
    }

    private long[] wholeValues(List<Page> pages) {
        long[] values = new long[14];
        values[0] = state.words.size();
        values[1] = linesOf(pages).size();
        values[2] = pages.size();
        for (int i = 0; i < state.words.size(); i++) {
            values[3] += state.ends(i) ? 1 : 0;
        }
        for (int i = 0; i < 6; i++) {
            values[4 + i] = state.settings[i];
        }
        for (Line line : linesOf(pages)) {
            values[10] += line.left + line.right > 0 ? 1 : 0;
            values[11] += line.wide ? 1 : 0;
            values[12] += line.left + line.right;
        }
        values[13] = text.length();
        return values;
    }

    Object share(int sign) {
        return out(sign, 0, 7) ? INDEX : (Object) (long) state.shares[sign];
    }

    private long unevennessOf(int[] settings) {
        long sum = 0;
        for (Line line : linesOf(pagesWith(settings))) {
            sum += line.ends ? 0 : (long) line.empty() * line.empty();
        }
        return sum;
    }

    Object unevenness() {
        return unevennessOf(state.settings);
    }

    Object meanEmpty() {
        List<Line> lines = linesOf(pagesWith(state.settings));
        int sum = 0;
        for (Line line : lines) {
            sum += line.empty();
        }
        return lines.isEmpty() ? 0.0 : (double) sum / (double) lines.size();
    }

    // ---- what if

    private int countWith(int[] settings) {
        return linesOf(pagesWith(settings)).size();
    }

    Object linesWith(int measure) {
        return out(measure, 20, 200) ? ARGUMENT : (Object) (long) countWith(with(0, measure));
    }

    Object measureFor(int lines) {
        if (out(lines, 1, 60)) {
            return ARGUMENT;
        }
        for (int measure = 20; measure <= 200; measure++) {
            if (countWith(with(0, measure)) <= lines) {
                return (long) measure;
            }
        }
        return -1L;
    }

    Object linesUnlent() {
        int[] settings = with(2, 0);
        settings[3] = 0;
        return (long) countWith(settings);
    }

    Object evenest(int most) {
        if (out(most, 0, 20)) {
            return ARGUMENT;
        }
        long best = -1;
        long least = Long.MAX_VALUE;
        for (int measure = 20; measure <= 200; measure++) {
            if (Math.abs(measure - state.settings[0]) <= most && unevennessOf(with(0, measure)) < least) {
                least = unevennessOf(with(0, measure));
                best = measure;
            }
        }
        return best;
    }

    // ---- text, undo and checksum

    Object type(int value) {
        if (out(value, 0, 127)) {
            return ARGUMENT;
        }
        if (text.length() == 200) {
            return STATE;
        }
        text += (char) value;
        return (long) text.length();
    }

    Object clearText() {
        int before = text.length();
        text = "";
        return (long) before;
    }

    /** The fault, or -1: the first prefix of the text that no text that tells words begins with. */
    static int faultOf(String text) {
        for (int length = 1; length <= text.length(); length++) {
            Matcher matcher = TEXT.matcher(text.substring(0, length));
            if (!matcher.matches() && !matcher.hitEnd()) {
                return length - 1;
            }
        }
        return TEXT.matcher(text).matches() ? -1 : text.length();
    }

    Object readWords() {
        int fault = faultOf(text);
        if (fault >= 0) {
            return -10L - fault;
        }
        save();
        state.words.clear();
        Matcher matcher = Pattern.compile("([\"(]?)([a-z]+)([^a-z/ ]?)(/?)").matcher(text);
        while (matcher.find()) {
            int ahead = matcher.group(1).isEmpty() ? -1 : BYTES.indexOf(matcher.group(1));
            int behind = matcher.group(3).isEmpty() ? -1 : BYTES.indexOf(matcher.group(3));
            state.words.add(new Word(matcher.group(2), ahead, behind, !matcher.group(4).isEmpty()));
        }
        return (long) state.words.size();
    }

    private String written(Line line) {
        List<String> parts = new ArrayList<>();
        for (Word word : state.words.subList(line.first, line.first + line.count)) {
            parts.add(word.written());
        }
        return String.join(" ", parts);
    }

    Object lineByte(int line, int index) {
        List<Line> lines = linesOf(pagesWith(state.settings));
        if (out(line, 0, lines.size() - 1)) {
            return INDEX;
        }
        if (index < 0) {
            return ARGUMENT;
        }
        String written = written(lines.get(line));
        return index < written.length() ? (long) written.charAt(index) : -1L;
    }

    Object undo() {
        if (saved.isEmpty()) {
            return STATE;
        }
        state = saved.removeLast();
        return (long) saved.size();
    }

    Object digest() {
        List<Page> pages = pagesWith(state.settings);
        List<Line> lines = linesOf(pages);
        List<Long> values = new ArrayList<>();
        values.add((long) saved.size());
        addAll(values, wholeValues(pages));
        addAll(values, Arrays.stream(state.shares).asLongStream().toArray());
        for (int i = 0; i < state.words.size(); i++) {
            addAll(values, wordValues(i, pages));
        }
        for (int i = 0; i < lines.size(); i++) {
            addAll(values, lineValues(i, pages));
            written(lines.get(i)).chars().forEach(c -> values.add((long) c));
        }
        for (int i = 0; i < pages.size(); i++) {
            addAll(values, pageValues(i, pages));
        }
        long hash = 43262;
        for (long value : values) {
            hash = 31 * hash + value;
        }
        return hash;
    }

    private static void addAll(List<Long> values, long[] more) {
        for (long value : more) {
            values.add(value);
        }
    }
}
