import java.io.IOException;
import java.util.ArrayList;
import java.util.List;

/** Each sentence of the document has a test: it is quoted, whole or in part, by one, and nothing else is quoted. */
public final class TraceTest {
    private static final Sentence[][] TESTS = {FaceTest.SENTENCES, SignsTest.SENTENCES, SignCallsTest.SENTENCES,
            CarsTest.SENTENCES, CarCallsTest.SENTENCES, FinesTest.SENTENCES, FineCallsTest.SENTENCES, PricesTest.SENTENCES,
            RefusalsTest.SENTENCES};
    private static final int PROMISES = 25;

    public static void main(String[] args) throws IOException {
        Check check = new Check("TraceTest");
        Document document = Document.read();
        headingIsTested(check, document, "Terms");
        for (int number = 1; number <= PROMISES; number++) {
            headingIsTested(check, document, "Promise " + number);
        }
        quotesAreOfTheDocument(check, document);
        check.end();
    }

    private static void headingIsTested(Check check, Document document, String heading) {
        List<String> sentences = document.under(heading);
        check.holds(heading + " has no sentence", !sentences.isEmpty());
        for (String sentence : sentences) {
            boolean isQuoted = quotes(heading).stream().anyMatch(q -> sentence.contains(q) || q.contains(sentence));
            check.holds(heading + ": no test quotes: " + sentence, isQuoted || isOfTheInterface(sentence));
        }
    }

    /** These lines tell which comments the interface has: there is nothing in them to be called. */
    private static boolean isOfTheInterface(String sentence) {
        return sentence.startsWith("Ahead of the calls ");
    }

    private static List<String> quotes(String heading) {
        List<String> quotes = new ArrayList<>();
        for (Sentence[] test : TESTS) {
            for (Sentence sentence : test) {
                if (sentence.heading().equals(heading)) {
                    quotes.add(sentence.quote());
                }
            }
        }
        return quotes;
    }

    private static void quotesAreOfTheDocument(Check check, Document document) {
        for (Sentence[] test : TESTS) {
            for (Sentence sentence : test) {
                boolean isThere = String.join(" ", document.under(sentence.heading())).contains(sentence.quote());
                check.holds("not in the document: " + sentence.heading() + ": " + sentence.quote(), isThere);
            }
        }
    }
}
