import java.util.ArrayList;
import java.util.Arrays;
import java.util.List;

/** Each word of the document's terms and promises is quoted by a test, and nothing else is quoted. */
public final class TraceTest {
    private static final Sentence[][] TESTS = {FaceTest.SENTENCES, SignsTest.SENTENCES, SignCallsTest.SENTENCES,
            CarsTest.SENTENCES, CarCallsTest.SENTENCES, FinesTest.SENTENCES, FineCallsTest.SENTENCES, PricesTest.SENTENCES,
            RefusalsTest.SENTENCES};
    private static final int PROMISES = 25;

    public static void main(String[] args) {
        Check check = new Check("TraceTest");
        Document document = Document.read();
        headingIsTested(check, document, "Terms");
        for (int number = 1; number <= PROMISES; number++) {
            headingIsTested(check, document, "Promise " + number);
        }
        quotesAreOfTheDocument(check, document);
        check.end();
    }

    private static void headingIsTested(Check check, Document document, String heading) {
        List<String> lines = document.under(heading);
        check.holds(heading + " has no sentence", !lines.isEmpty());
        for (String line : lines) {
            String rest = withoutQuotes(line, quotes(heading));
            check.holds(heading + ": no test quotes: " + rest, rest.isBlank());
        }
    }

    /** Quotes may overlap: all of them are looked for in the line as it was. */
    private static String withoutQuotes(String line, List<String> quotes) {
        char[] rest = line.toCharArray();
        for (String quote : quotes) {
            for (int at = line.indexOf(quote); at >= 0; at = line.indexOf(quote, at + 1)) {
                Arrays.fill(rest, at, at + quote.length(), ' ');
            }
        }
        return new String(rest);
    }

    private static List<String> quotes(String heading) {
        List<String> quotes = new ArrayList<>();
        for (Sentence[] test : TESTS) {
            for (Sentence sentence : test) {
                if (sentence.heading().equals(heading)) {
                    quotes.add(sentence.quote());
                }
            }
        }
        return quotes;
    }

    private static void quotesAreOfTheDocument(Check check, Document document) {
        for (Sentence[] test : TESTS) {
            for (Sentence sentence : test) {
                boolean isThere = String.join(" ", document.under(sentence.heading())).contains(sentence.quote());
                check.holds("not in the document: " + sentence.heading() + ": " + sentence.quote(), isThere);
            }
        }
    }
}
