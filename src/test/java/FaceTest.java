import java.lang.reflect.Constructor;
import java.lang.reflect.Field;
import java.lang.reflect.Method;
import java.lang.reflect.Modifier;
import java.util.TreeMap;

/** The public face is that of the document, to the letter, and promise 1. */
public final class FaceTest {
    static final Sentence[] SENTENCES = {
        Sentence.term("`NONE = -1`: There is none.", c -> c.is("NONE", KerbHours.NONE, -1)),
        Sentence.term("`RESIDENT = 0, CARER = 1, LORRY = 2, TAXI = 3, VISITOR = 4`: Users.", FaceTest::users),
        Sentence.term("`FINE = 0, BLOCKED = 1, FORBIDDEN = 2, OVERSTAYED = 3, UNPAID = 4`: Judgements.",
                FaceTest::judgements),
        new Sentence("The public face", "public final class KerbHours {", FaceTest::members),
        new Sentence("The public face", "public boolean block(int street, int metre, boolean is)", FaceTest::methods),
        Sentence.promise(1, "No signs and cars.", FaceTest::newObject),
        Sentence.promise(1, "`KerbHours()`", FaceTest::objectsAreApart),
    };

    private static final String INDEX = "IndexOutOfBoundsException ";
    private static final String ARGUMENT = "IllegalArgumentException ";
    private static final String STATE = "IllegalStateException ";

    public static void main(String[] args) {
        Sentence.runAll("FaceTest", SENTENCES);
    }

    private static void users(Check check) {
        check.is("RESIDENT", KerbHours.RESIDENT, 0);
        check.is("CARER", KerbHours.CARER, 1);
        check.is("LORRY", KerbHours.LORRY, 2);
        check.is("TAXI", KerbHours.TAXI, 3);
        check.is("VISITOR", KerbHours.VISITOR, 4);
    }

    private static void judgements(Check check) {
        check.is("FINE", KerbHours.FINE, 0);
        check.is("BLOCKED", KerbHours.BLOCKED, 1);
        check.is("FORBIDDEN", KerbHours.FORBIDDEN, 2);
        check.is("OVERSTAYED", KerbHours.OVERSTAYED, 3);
        check.is("UNPAID", KerbHours.UNPAID, 4);
    }

    private static void members(Check check) {
        check.holds("the class is public and final",
                Modifier.isPublic(KerbHours.class.getModifiers()) && Modifier.isFinal(KerbHours.class.getModifiers()));
        int constants = 0;
        for (Field field : KerbHours.class.getDeclaredFields()) {
            int is = field.getModifiers();
            if (Modifier.isPrivate(is)) {
                continue;
            }
            constants++;
            check.holds(field.getName() + " is a public constant",
                    Modifier.isPublic(is) && Modifier.isStatic(is) && Modifier.isFinal(is));
        }
        check.is("constants", constants, 11);
        Constructor<?>[] constructors = KerbHours.class.getDeclaredConstructors();
        check.is("constructors", constructors.length, 1);
        check.holds("the constructor is public and takes nothing",
                Modifier.isPublic(constructors[0].getModifiers()) && constructors[0].getParameterCount() == 0);
    }

    private static void methods(Check check) {
        TreeMap<String, String> due = face();
        for (Method method : KerbHours.class.getDeclaredMethods()) {
            String name = method.getName();
            if (Modifier.isPrivate(method.getModifiers())) {
                check.holds("the private " + name + " bears a public name", !due.containsKey(name));
                continue;
            }
            check.holds(name + " is public and of objects",
                    Modifier.isPublic(method.getModifiers()) && !Modifier.isStatic(method.getModifiers()));
            check.holds(name + " is " + told(method) + ", due is " + due.get(name), told(method).equals(due.get(name)));
            due.remove(name);
        }
        check.holds("missing: " + due.keySet(), due.isEmpty());
    }

    private static TreeMap<String, String> face() {
        TreeMap<String, String> face = new TreeMap<>();
        face.put("block", "boolean (int int boolean ) " + INDEX);
        face.put("times", "void (int int int ) " + ARGUMENT);
        face.put("dates", "void (int int ) " + ARGUMENT);
        face.put("sign", "int (int int int int int boolean boolean ) " + INDEX + ARGUMENT + STATE);
        face.put("takeDown", "void (int ) " + INDEX + STATE);
        face.put("rule", "int (int int int ) " + INDEX + ARGUMENT);
        face.put("ruleAnew", "int (int int int ) " + INDEX + ARGUMENT);
        face.put("car", "int (int int ) " + ARGUMENT + STATE);
        face.put("permit", "int (int int int int int ) " + INDEX + ARGUMENT + STATE);
        face.put("hand", "int (int int ) " + INDEX);
        face.put("countsAs", "int (int int ) " + INDEX);
        face.put("park", "void (int int int ) " + INDEX + STATE);
        face.put("leave", "int (int ) " + INDEX + STATE);
        face.put("gap", "int (int int ) " + INDEX + ARGUMENT);
        face.put("pay", "int (int int int int ) " + INDEX + ARGUMENT + STATE);
        face.put("judge", "int (int ) " + INDEX);
        face.put("look", "int (int ) " + INDEX);
        face.put("appeal", "boolean (int ) " + INDEX + STATE);
        face.put("payFine", "int (int ) " + INDEX + STATE);
        face.put("fine", "int (int int ) " + INDEX + ARGUMENT);
        face.put("debt", "int (int ) " + INDEX);
        face.put("tow", "int (int ) " + INDEX + STATE);
        face.put("streetIs", "int (int int ) " + INDEX + ARGUMENT);
        face.put("pass", "int (int ) " + ARGUMENT + STATE);
        return face;
    }

    private static String told(Method method) {
        StringBuilder text = new StringBuilder(method.getReturnType().getSimpleName()).append(" (");
        for (Class<?> type : method.getParameterTypes()) {
            text.append(type.getSimpleName()).append(' ');
        }
        text.append(") ");
        for (Class<?> type : method.getExceptionTypes()) {
            text.append(type.getSimpleName()).append(' ');
        }
        return text.toString();
    }

    private static void newObject(Check check) {
        KerbHours k = new KerbHours();
        for (int street = 0; street < 4; street++) {
            check.is("price at first", k.streetIs(street, 0), 4);
            for (int what = 1; what <= 4; what++) {
                check.is("streetIs at first", k.streetIs(street, what), 0);
            }
            for (int metre = 0; metre < 60; metre++) {
                check.is("rule at first", k.rule(street, metre, 0), KerbHours.NONE);
                check.is("blocked at first", k.block(street, metre, false), false);
            }
        }
        check.refusesIndex("takeDown without a sign", () -> k.takeDown(0));
        check.refusesIndex("judge without a car", () -> k.judge(0));
        check.refusesIndex("payFine without a fine", () -> k.payFine(0));
        check.is("the first car", k.car(3, KerbHours.TAXI), 0);
        check.refusesIndex("hand without a permit", () -> k.hand(0, 0));
        check.is("time starts at 0", k.pass(1), 1);
    }

    private static void objectsAreApart(Check check) {
        KerbHours one = new KerbHours();
        KerbHours two = new KerbHours();
        one.block(0, 0, true);
        one.sign(0, 0, 0, 0, 0, false, false);
        one.car(3, 0);
        one.pass(5);
        check.is("blocked of the other", two.block(0, 0, false), false);
        check.is("rule of the other", two.rule(0, 0, 0), KerbHours.NONE);
        check.is("car of the other", two.car(3, 0), 0);
        check.is("time of the other", two.pass(1), 1);
    }
}
