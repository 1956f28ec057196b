import java.io.IOException;
import java.io.UncheckedIOException;
import java.lang.reflect.Constructor;
import java.lang.reflect.Field;
import java.lang.reflect.Method;
import java.lang.reflect.Modifier;
import java.nio.file.Files;
import java.nio.file.Path;
import java.util.ArrayList;
import java.util.List;
import java.util.regex.Matcher;
import java.util.regex.Pattern;

/** The public face is that of the document, to the letter; promise 1, and how each other promise begins. */
public final class FaceTest {
    private static final Path PROGRAM = Path.of("src", "main", "java", "KerbHours.java");
    private static final String SAYS = " the interface says: ---- ";
    private static final String INDEX = " throws IndexOutOfBoundsException";
    private static final String ARGUMENT = " throws IllegalArgumentException";
    private static final String STATE = ", IllegalStateException";
    private static final String INDEX_ARGUMENT = INDEX + ", IllegalArgumentException", INDEX_STATE = INDEX + STATE;
    private static final String ARGUMENT_STATE = ARGUMENT + STATE, INDEX_ARGUMENT_STATE = INDEX_ARGUMENT + STATE;
    private static final int CALLS = 24;

    static final Sentence[] SENTENCES = {
        Sentence.term("The constants: `NONE = -1`: There is none.", c -> c.is("NONE", KerbHours.NONE, -1)),
        Sentence.term("`RESIDENT = 0, CARER = 1, LORRY = 2, TAXI = 3, VISITOR = 4`: Users.", FaceTest::users),
        Sentence.term("`FINE = 0, BLOCKED = 1, FORBIDDEN = 2, OVERSTAYED = 3, UNPAID = 4`: Judgements.",
                FaceTest::judgements),
        group("`block`, `times`, `dates`, `sign`, `takeDown`, `rule`, `ruleAnew`", "kerbs and signs"),
        group("`car`, `permit`, `hand`, `countsAs`, `park`, `leave`, `gap`", "cars and permits"),
        group("`pay`, `judge`, `look`, `appeal`, `payFine`, `fine`, `debt`, `tow`", "payments, looks, fines"),
        group("`streetIs`, `pass`", "prices and time"),
        new Sentence("The public face", "public final class KerbHours {", FaceTest::members),
        new Sentence("The public face", "public static final int NONE = -1;", FaceTest::isToTheLetter),
        Sentence.promise(1, "No signs and cars.", FaceTest::newObject),
        Sentence.promise(1, "`KerbHours()`:", FaceTest::objectsAreApart),
        call(2, "boolean block(int street, int metre, boolean is)" + INDEX),
        call(3, "void times(int weekdays, int from, int to)" + ARGUMENT),
        call(4, "void dates(int from, int to)" + ARGUMENT),
        call(5, "int sign(int street, int from, int to, int users, int stay, boolean hasFee, boolean isTemporary)"
                + INDEX_ARGUMENT_STATE),
        call(6, "void takeDown(int sign)" + INDEX_STATE),
        call(7, "int rule(int street, int metre, int quarter)" + INDEX_ARGUMENT),
        call(8, "int ruleAnew(int street, int metre, int quarter)" + INDEX_ARGUMENT),
        call(9, "int car(int length, int user)" + ARGUMENT_STATE),
        call(10, "int permit(int car, int street, int home, int from, int to)" + INDEX_ARGUMENT_STATE),
        call(11, "int hand(int permit, int car)" + INDEX),
        call(12, "int countsAs(int car, int street)" + INDEX),
        call(13, "void park(int car, int street, int metre)" + INDEX_STATE),
        call(14, "int leave(int car)" + INDEX_STATE),
        call(15, "int gap(int street, int length)" + INDEX_ARGUMENT),
        call(16, "int pay(int car, int street, int from, int quarters)" + INDEX_ARGUMENT_STATE),
        call(17, "int judge(int car)" + INDEX),
        call(18, "int look(int street)" + INDEX),
        call(19, "boolean appeal(int fine)" + INDEX_STATE),
        call(20, "int payFine(int fine)" + INDEX_STATE),
        call(21, "int fine(int fine, int what)" + INDEX_ARGUMENT),
        call(22, "int debt(int car)" + INDEX),
        call(23, "int tow(int car)" + INDEX_STATE),
        call(24, "int streetIs(int street, int what)" + INDEX_ARGUMENT),
        call(25, "int pass(int quarters)" + ARGUMENT_STATE),
    };

    public static void main(String[] args) {
        Sentence.runAll("FaceTest", SENTENCES);
    }

    private static void users(Check check) {
        check.is("RESIDENT", KerbHours.RESIDENT, 0);
        check.is("CARER", KerbHours.CARER, 1);
        check.is("LORRY", KerbHours.LORRY, 2);
        check.is("TAXI", KerbHours.TAXI, 3);
        check.is("VISITOR", KerbHours.VISITOR, 4);
    }

    private static void judgements(Check check) {
        check.is("FINE", KerbHours.FINE, 0);
        check.is("BLOCKED", KerbHours.BLOCKED, 1);
        check.is("FORBIDDEN", KerbHours.FORBIDDEN, 2);
        check.is("OVERSTAYED", KerbHours.OVERSTAYED, 3);
        check.is("UNPAID", KerbHours.UNPAID, 4);
    }

    private static void members(Check check) {
        check.holds("the class is public and final",
                Modifier.isPublic(KerbHours.class.getModifiers()) && Modifier.isFinal(KerbHours.class.getModifiers()));
        int constants = 0;
        for (Field field : KerbHours.class.getDeclaredFields()) {
            int is = field.getModifiers();
            if (Modifier.isPrivate(is)) {
                continue;
            }
            constants++;
            check.holds(field.getName() + " is a public constant",
                    Modifier.isPublic(is) && Modifier.isStatic(is) && Modifier.isFinal(is));
        }
        check.is("constants", constants, 11);
        Constructor<?>[] constructors = KerbHours.class.getDeclaredConstructors();
        check.is("constructors", constructors.length, 1);
        check.holds("the constructor is public and takes nothing",
                Modifier.isPublic(constructors[0].getModifiers()) && constructors[0].getParameterCount() == 0);
        methods(check);
    }

    private static void methods(Check check) {
        List<String> ofTheFace = new ArrayList<>();
        List<String> own = new ArrayList<>();
        for (Method method : KerbHours.class.getDeclaredMethods()) {
            boolean isOwn = Modifier.isPrivate(method.getModifiers());
            (isOwn ? own : ofTheFace).add(method.getName());
            check.holds(method.getName() + " is private, or public and of objects", isOwn
                    || Modifier.isPublic(method.getModifiers()) && !Modifier.isStatic(method.getModifiers()));
        }
        check.is("calls", ofTheFace.size(), CALLS);
        own.retainAll(ofTheFace);
        check.holds("private ones with a public name: " + own, own.isEmpty());
    }

    /** The promise's call, as the document writes it: by its types and exceptions, and by the names of its arguments. */
    private static Sentence call(int promise, String signature) {
        return Sentence.promise(promise, "`" + signature + "`:", check -> {
            check.is("declared: " + generic(signature), methodsThatAre(generic(signature)), 1);
            check.holds("written in the program: " + signature, program().contains(" public " + signature + " {"));
        });
    }

    /** A signature as Method.toGenericString tells it. */
    private static String generic(String signature) {
        int parameters = signature.indexOf('('), exceptions = signature.indexOf(" throws ");
        int name = signature.indexOf(' ') + 1;
        return "public " + signature.substring(0, name) + "KerbHours." + signature.substring(name, parameters)
                + signature.substring(parameters, exceptions).replaceAll(" \\w+(?=[,)])", "").replace(", ", ",")
                + signature.substring(exceptions).replaceAll("(throws|,) (\\w+)", "$1 java.lang.$2").replace(", ", ",");
    }

    private static int methodsThatAre(String generic) {
        int count = 0;
        for (Method method : KerbHours.class.getDeclaredMethods()) {
            if (method.toGenericString().equals(generic)) {
                count++;
            }
        }
        return count;
    }

    /** The program's text with one space for each run of spaces and ends of lines. */
    private static String program() {
        try {
            return Files.readString(PROGRAM).replaceAll("\\s+", " ");
        } catch (IOException e) {
            throw new UncheckedIOException(e);
        }
    }

    /** The comment stands ahead of these calls of the face, in their order, and of no other ones. */
    private static Sentence group(String calls, String title) {
        return Sentence.term("Ahead of the calls " + calls + SAYS + title + ".", check -> {
            String program = program();
            int from = program.indexOf("// ---- " + title + " ");
            check.holds("the comment: " + title, from >= 0);
            int to = program.indexOf("// ----", from + 1);
            Matcher call = Pattern.compile("public \\w+ (\\w+)\\(").matcher(program.substring(Math.max(from, 0), to));
            List<String> found = new ArrayList<>();
            while (call.find()) {
                found.add("`" + call.group(1) + "`");
            }
            check.holds(title + " stands ahead of " + found, String.join(", ", found).equals(calls));
        });
    }

    /** Each line of the document's interface is one of the program, but for its end. */
    private static void isToTheLetter(Check check) {
        String program = program();
        int lines = 0;
        for (String line : Document.read().under("The public face")) {
            String due = line.endsWith(";") && line.contains("(") ? line.substring(0, line.length() - 1) + " {" : line;
            if (line.startsWith("public ")) {
                lines++;
                check.holds("the program has no " + line, program.contains(" " + due + " "));
            }
        }
        check.is("lines of the interface", lines, 1 + 3 + 1 + CALLS);
    }

    private static void newObject(Check check) {
        KerbHours k = new KerbHours();
        for (int street = 0; street < 4; street++) {
            check.is("price at first", k.streetIs(street, 0), 4);
            for (int what = 1; what <= 4; what++) {
                check.is("streetIs at first", k.streetIs(street, what), 0);
            }
            for (int metre = 0; metre < 60; metre++) {
                check.is("rule at first", k.rule(street, metre, 0), KerbHours.NONE);
                check.is("blocked at first", k.block(street, metre, false), false);
            }
        }
        check.refusesIndex("takeDown without a sign", () -> k.takeDown(0));
        check.refusesIndex("judge without a car", () -> k.judge(0));
        check.refusesIndex("payFine without a fine", () -> k.payFine(0));
        check.is("the first car", k.car(3, KerbHours.TAXI), 0);
        check.refusesIndex("hand without a permit", () -> k.hand(0, 0));
        check.is("time starts at 0", k.pass(1), 1);
    }

    private static void objectsAreApart(Check check) {
        KerbHours one = new KerbHours();
        KerbHours two = new KerbHours();
        one.block(0, 0, true);
        one.sign(0, 0, 0, 0, 0, false, false);
        one.car(3, 0);
        one.pass(5);
        check.is("blocked of the other", two.block(0, 0, false), false);
        check.is("rule of the other", two.rule(0, 0, 0), KerbHours.NONE);
        check.is("car of the other", two.car(3, 0), 0);
        check.is("time of the other", two.pass(1), 1);
    }
}
