/** The example that README.md shows, with what it prints. */
public final class ReadmeExample {
    public static void main(String[] args) {
        LentMargins m = new LentMargins();
        m.set(0, 50);
        for (char c : "(hyphens) hang; later lines pay/ the end".toCharArray()) {
            m.type(c);
        }
        System.out.println("words: " + m.readWords());
        System.out.println("with a full stop the last one is wide: " + m.setSigns(6, LentMargins.NONE, 3));
        for (int line = 0; line < m.whole(1); line++) {
            System.out.println(written(m, line) + ": " + m.line(line, 3) + " wide, lent "
                + (m.line(line, 5) + m.line(line, 6)) + ", paid " + m.line(line, 7));
        }
        System.out.println("lines with the measure 110: " + m.linesWith(110));
        System.out.println("words then: " + m.insert(0, 23, 4, 0, LentMargins.NONE));
        System.out.println(written(m, 0));
        System.out.println("states left: " + m.undo());
        try {
            m.word(7, 0);
        } catch (IndexOutOfBoundsException e) {
            System.out.println("there is no word 7");
        }
    }

    private static String written(LentMargins m, int line) {
        StringBuilder text = new StringBuilder();
        for (int i = 0; m.lineByte(line, i) != LentMargins.NONE; i++) {
            text.append((char) m.lineByte(line, i));
        }
        return text.toString();
    }
}
