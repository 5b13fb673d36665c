import java.io.IOException;
import java.lang.reflect.Method;
import java.nio.file.Files;
import java.nio.file.Path;
import java.util.ArrayList;
import java.util.List;

/** Every sentence of the document has a test that names it, and every test names words that the document has. */
public final class EverySentenceTest {
    private static final Class<?>[] TESTS = {TermsEdgesTest.class, WordEdgesTest.class, ValueEdgesTest.class,
        WhatIfEdgesTest.class, TextEdgesTest.class};
    /** It only tells how to read the numbers of other sentences. */
    private static final String NO_BEHAVIOUR = "Widths are in units.";
    private static final Path DOCUMENT = Path.of("../shared/DOC.md");

    private final Check check = new Check();
    /** The document's sentences: 0 for those of no promise. */
    private final List<List<String>> sentences = new ArrayList<>();

    public static void main(String[] args) throws IOException {
        EverySentenceTest test = new EverySentenceTest();
        test.readDocument();
        test.everyTestQuotes();
        test.everySentenceIsTested();
        test.check.finish();
    }

    private void readDocument() throws IOException {
        sentences.add(new ArrayList<>());
        boolean inCode = false;
        boolean counts = true;
        for (String line : Files.readAllLines(DOCUMENT)) {
            inCode ^= line.startsWith("```");
            if (line.startsWith("## Promise ")) {
                sentences.add(new ArrayList<>());
            }
            if (line.startsWith("#")) {
                counts = !line.equals("## Not promised") && !line.equals("## What it is");
            } else if (!inCode && counts && !line.startsWith("Ahead of the calls")) {
                addSentences(line);
            }
        }
        check.same("promises", 24, sentences.size() - 1);
    }

    private void addSentences(String line) {
        String text = line.replaceFirst("^`.*?`: ", "").replaceFirst("^- ", "").replace("`", "");
        for (String sentence : text.split("(?<=\\.|\\.\\))\\s+|(?<=;) (?=0\\.0|NONE|-10)")) {
            // Headings of capitals alone name no behaviour, nor does what only begins a list.
            boolean heading = sentence.equals(sentence.toUpperCase()) || sentence.endsWith(":");
            if (sentence.length() > 1 && !heading && !sentence.equals(NO_BEHAVIOUR)) {
                sentences.get(sentences.size() - 1).add(sentence);
            }
        }
    }

    private static List<Sentence> quotes() {
        List<Sentence> quotes = new ArrayList<>();
        for (Class<?> type : TESTS) {
            for (Method test : Cases.testsOf(type)) {
                quotes.add(test.getAnnotation(Sentence.class));
            }
        }
        return quotes;
    }

    private void everyTestQuotes() throws IOException {
        String document = Files.readString(DOCUMENT).replace("`", "");
        for (Sentence quote : quotes()) {
            check.holds("the document to say: " + quote.says(), document.contains(quote.says()));
            check.holds("a promise of this number: " + quote.promise(), quote.promise() >= 1 && quote.promise() <= 24);
        }
    }

    private void everySentenceIsTested() {
        for (int promise = 0; promise < sentences.size(); promise++) {
            for (String sentence : sentences.get(promise)) {
                boolean named = false;
                for (Sentence quote : quotes()) {
                    boolean here = promise == 0 || quote.promise() == promise;
                    named |= here && (sentence.contains(quote.says()) || quote.says().contains(sentence));
                }
                check.holds("promise " + promise + ", a test of: " + sentence, named);
            }
        }
    }
}
