import java.util.function.Consumer;

/** A sentence of the document, or a part of one, with the test that fails if that alone is broken. */
record Sentence(String heading, String quote, Consumer<Check> test) {

    static Sentence term(String quote, Consumer<Check> test) {
        return new Sentence("Terms", quote, test);
    }

    static Sentence promise(int number, String quote, Consumer<Check> test) {
        return new Sentence("Promise " + number, quote, test);
    }

    static void runAll(String name, Sentence[] sentences) {
        Check check = new Check(name);
        for (Sentence sentence : sentences) {
            check.under(sentence.heading + ": " + sentence.quote, () -> sentence.test.accept(check));
        }
        check.end();
    }
}
