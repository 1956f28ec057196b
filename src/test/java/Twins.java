import java.util.ArrayList;
import java.util.List;
import java.util.function.Consumer;
import java.util.function.LongSupplier;

/**
 * Two objects with the same past. One of them is asked or refused something that may not change it: behind that
 * both have to answer everything alike. Each probe has a pair of its own, for a probe changes what it asks, and
 * an object is good for 512 calls alone.
 */
final class Twins {
    private static final int STREETS = 4, METRES = 60;
    private static final int[] SOME_METRES = {0, 10, 25, 59};
    private static final int[] SOME_QUARTERS = {0, 50, 95, 96, 191, 300, 700, 49999};

    private final Consumer<KerbHours> past;
    private final List<Consumer<Answers>> probes = List.of(Twins::rules, Twins::blockedMetres, Twins::nextSign, Twins::cars,
            Twins::permits, Twins::gapsAndStreets, Twins::payments, Twins::factsOfFines, Twins::appealsOfFines,
            Twins::whatFollows);
    private final List<List<Long>> answersWithout = new ArrayList<>();

    Twins(Consumer<KerbHours> past) {
        this.past = past;
    }

    /** Asked for by the first test that needs them, so that a past that goes wrong is told as that test's fault. */
    private List<List<Long>> answersWithout() {
        if (answersWithout.isEmpty()) {
            for (Consumer<Answers> probe : probes) {
                answersWithout.add(answersBehind(k -> { }, probe));
            }
        }
        return answersWithout;
    }

    void refusesIndex(Check check, String call, Consumer<KerbHours> body) {
        refuses(check, call, IndexOutOfBoundsException.class, body);
    }

    void refusesArgument(Check check, String call, Consumer<KerbHours> body) {
        refuses(check, call, IllegalArgumentException.class, body);
    }

    void refusesState(Check check, String call, Consumer<KerbHours> body) {
        refuses(check, call, IllegalStateException.class, body);
    }

    void refuses(Check check, String call, Class<? extends RuntimeException> due, Consumer<KerbHours> body) {
        KerbHours k = new KerbHours();
        past.accept(k);
        check.refuses(call, due, () -> body.accept(k));
        isUnchangedBy(check, call, body);
    }

    /** The call may answer or throw: what counts is that nothing is different behind it. */
    void isUnchangedBy(Check check, String call, Consumer<KerbHours> body) {
        for (int i = 0; i < probes.size(); i++) {
            List<Long> without = answersWithout().get(i);
            List<Long> with = answersBehind(body, probes.get(i));
            int first = 0;
            while (first < without.size() && first < with.size() && without.get(first).equals(with.get(first))) {
                first++;
            }
            check.holds(call + " changes answer " + first + " of probe " + i, with.equals(without));
        }
    }

    private List<Long> answersBehind(Consumer<KerbHours> body, Consumer<Answers> probe) {
        Answers answers = new Answers();
        past.accept(answers.k);
        answers.make(() -> body.accept(answers.k));
        answers.all.clear();
        probe.accept(answers);
        return answers.all;
    }

    /** The answers of one object, an exception as a number too. */
    private static final class Answers {
        final KerbHours k = new KerbHours();
        final List<Long> all = new ArrayList<>();

        void ask(LongSupplier call) {
            try {
                all.add(call.getAsLong());
            } catch (RuntimeException e) {
                all.add(-1000L - e.getClass().getSimpleName().length());
            }
        }

        void make(Runnable call) {
            ask(() -> {
                call.run();
                return -999;
            });
        }
    }

    private static void rules(Answers a) {
        for (int street = 0; street < STREETS; street++) {
            int of = street;
            for (int metre : SOME_METRES) {
                for (int quarter : SOME_QUARTERS) {
                    a.ask(() -> a.k.rule(of, metre, quarter));
                    a.ask(() -> a.k.ruleAnew(of, metre, quarter));
                }
            }
        }
    }

    private static void blockedMetres(Answers a) {
        for (int i = 0; i < STREETS * METRES; i++) {
            int at = i;
            a.ask(() -> a.k.block(at / METRES, at % METRES, false) ? 1 : 0);
        }
    }

    /** Shows which times and dates were told for the next sign; no other sign stands at its place. */
    private static void nextSign(Answers a) {
        a.ask(() -> a.k.sign(3, 59, 59, 31, 0, false, false));
        for (int day : new int[] {0, 1, 2, 3, 4, 5, 6, 7, 8, 9, 10, 11, 12, 13, 14, 519, 520}) {
            for (int ofDay : new int[] {0, 19, 20, 69, 70, 79}) {
                a.ask(() -> a.k.rule(3, 59, day * 96 + ofDay));
            }
        }
        a.make(() -> a.k.takeDown(0));
        a.make(() -> a.k.takeDown(1));
        a.make(() -> a.k.takeDown(29));
    }

    private static void cars(Answers a) {
        for (int i = 0; i < 31; i++) {
            int car = i;
            a.ask(() -> a.k.judge(car));
            a.ask(() -> a.k.debt(car));
            for (int street = 0; street < STREETS; street++) {
                int at = street;
                a.ask(() -> a.k.countsAs(car, at));
            }
            a.ask(() -> a.k.leave(car));
        }
        a.ask(() -> a.k.car(5, KerbHours.LORRY));
    }

    private static void permits(Answers a) {
        for (int i = 0; i < 41; i++) {
            int permit = i;
            a.ask(() -> a.k.hand(permit, 0));
        }
        for (int i = 0; i < 10; i++) {
            int home = i;
            for (int day : new int[] {0, 1, 4, 500}) {
                a.ask(() -> a.k.permit(0, 0, home, day, day));
                a.ask(() -> a.k.permit(0, 0, home, day, day));
                a.ask(() -> a.k.permit(0, 0, home, day, day));
            }
        }
    }

    private static void gapsAndStreets(Answers a) {
        for (int i = 0; i < STREETS; i++) {
            int street = i;
            for (int length = 3; length <= 12; length++) {
                int of = length;
                a.ask(() -> a.k.gap(street, of));
            }
            for (int what = 0; what < 5; what++) {
                int of = what;
                a.ask(() -> a.k.streetIs(street, of));
            }
        }
    }

    /** Shows which cars have paid for the next quarter, and how many payments there may still be. */
    private static void payments(Answers a) {
        int now = a.k.pass(1);
        a.all.add((long) now);
        for (int i = 0; i < 10; i++) {
            int car = i;
            a.ask(() -> a.k.judge(car));
        }
        for (int i = 0; i < 201; i++) {
            a.ask(() -> a.k.pay(0, 0, now, 1));
        }
    }

    private static void factsOfFines(Answers a) {
        for (int i = 0; i < 61; i++) {
            int fine = i;
            for (int what = 2; what < 6; what++) {
                int of = what;
                a.ask(() -> a.k.fine(fine, of));
            }
        }
    }

    private static void appealsOfFines(Answers a) {
        for (int i = 0; i < 61; i++) {
            int fine = i;
            a.ask(() -> a.k.appeal(fine) ? 1 : 0);
            a.ask(() -> a.k.payFine(fine));
        }
    }

    private static void whatFollows(Answers a) {
        for (int day = 0; day < 4; day++) {
            for (int i = 0; i < STREETS; i++) {
                int street = i;
                a.ask(() -> a.k.look(street));
                for (int what = 0; what < 5; what++) {
                    int of = what;
                    a.ask(() -> a.k.streetIs(street, of));
                }
            }
            for (int i = 0; i < 6; i++) {
                int car = i;
                a.ask(() -> a.k.tow(car));
            }
            int quarters = day == 0 ? 1 : 96;
            a.ask(() -> a.k.pass(quarters));
        }
    }

    /**
     * A past in which something of each kind has happened: at quarter 200 there are 5 signs (3 is down), 6 cars (all
     * but 1 stand), 3 permits, 2 payments and 6 fines (0 is taken back, 1 paid, 2 appealed in vain), and times and
     * dates are told for a sign to come.
     */
    static void busy(KerbHours k) {
        k.block(0, 12, true);
        k.block(3, 40, true);
        int[] lengths = {5, 4, 12, 3, 3, 6};
        int[] users = {0, 4, 3, 0, 2, 4};
        for (int i = 0; i < 6; i++) {
            k.car(lengths[i], users[i]);
        }
        k.sign(0, 0, 59, 31, 4, true, false);
        k.sign(0, 10, 20, 1 << KerbHours.TAXI, 0, false, false);
        k.times(127, 10, 90);
        k.sign(1, 0, 30, 31, 2, true, true);
        k.sign(2, 5, 50, 1, 96, false, false);
        k.sign(3, 0, 20, 31, 0, true, false);
        k.permit(0, 0, 0, 0, 3);
        k.permit(3, 0, 0, 2, 5);
        k.permit(3, 2, 9, 0, 520);
        k.park(0, 0, 30);
        k.park(1, 0, 10);
        k.park(3, 0, 50);
        k.park(5, 2, 48);
        k.pass(2);
        k.look(0);
        k.look(2);
        k.pay(0, 0, 2, 5);
        k.appeal(0);
        k.payFine(1);
        k.appeal(2);
        k.pass(96);
        k.leave(1);
        k.park(2, 1, 20);
        k.look(0);
        k.takeDown(3);
        k.pass(96);
        k.pay(2, 1, 190, 40);
        k.park(4, 3, 0);
        k.pass(6);
        k.times(6, 20, 70);
        k.dates(1, 9);
    }
}
