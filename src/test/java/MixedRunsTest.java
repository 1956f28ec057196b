import java.util.function.LongSupplier;

/** Long runs of mixed calls, right and wrong ones, on the class and on PlainKerb: the answers have to be the same. */
public final class MixedRunsTest {
    private static final int CALLS = 512, RUNS = 1500;
    private static final int[] EDGES = {-1, 0, 1, 2, 3, 4, 5, 12, 13, 30, 31, 32, 40, 59, 60, 95, 96, 97, 127, 128, 520, 521,
            49999, 50000, Integer.MAX_VALUE, Integer.MIN_VALUE};

    private final Check check;
    private final int run;
    private final KerbHours k = new KerbHours();
    private final PlainKerb p = new PlainKerb();
    private final int[] answers;
    private final boolean isWild;
    private final int mostPassed;
    private long seed;
    private int calls = 0;

    private MixedRunsTest(Check check, int run, int[] answers) {
        this.check = check;
        this.run = run;
        this.answers = answers;
        this.seed = run * 7919L + 17;
        this.isWild = run % 5 == 4;
        this.mostPassed = new int[] {3, 12, 40, 96}[run % 4];
    }

    public static void main(String[] args) {
        Check check = new Check("MixedRunsTest");
        int[] answers = new int[5];
        for (int run = 0; run < RUNS; run++) {
            new MixedRunsTest(check, run, answers).play();
        }
        for (int judgement = 0; judgement < 5; judgement++) {
            check.holds("few judgements " + judgement + ": " + answers[judgement], answers[judgement] > 500);
        }
        check.end();
    }

    /** A number from 0 to below the bound, always the same ones for a run. */
    private int below(int bound) {
        seed = seed * 6364136223846793005L + 1442695040888963407L;
        return (int) ((seed >>> 33) % bound);
    }

    private int from(int low, int high) {
        return isWild && below(4) == 0 || below(60) == 0 ? EDGES[below(EDGES.length)] : low + below(high - low + 1);
    }

    private boolean yes(int outOf) {
        return below(outOf) == 0;
    }

    private void same(String call, LongSupplier got, long due) {
        calls++;
        long answer;
        try {
            answer = got.getAsLong();
        } catch (RuntimeException e) {
            answer = numberOf(e);
        }
        check.is("run " + run + " at " + p.now() + ": " + call, answer, due);
    }

    private static long numberOf(RuntimeException e) {
        if (!Check.isThrownByProgram(e)) {
            return Long.MIN_VALUE;
        }
        if (e.getClass() == IndexOutOfBoundsException.class) {
            return PlainKerb.INDEX;
        }
        if (e.getClass() == IllegalArgumentException.class) {
            return PlainKerb.ARGUMENT;
        }
        return e.getClass() == IllegalStateException.class ? PlainKerb.STATE : Long.MIN_VALUE;
    }

    /** A move makes two calls at most, and what an object answers behind its 512th is free. */
    private void play() {
        int first = 2 + below(20);
        while (calls <= CALLS - 2) {
            if (calls < first) {
                tellCar();
            } else {
                call(below(40));
            }
        }
    }

    private void call(int which) {
        switch (which) {
            case 0: block(); break;
            case 1: times(); break;
            case 2: dates(); break;
            case 3: case 4: sign(); break;
            case 5: takeDown(); break;
            case 6: case 7: case 8: rule(); break;
            case 9: permit(); break;
            case 10: hand(); break;
            case 11: countsAs(); break;
            case 12: case 13: case 14: case 15: case 16: park(); break;
            case 17: leave(); break;
            case 18: gap(); break;
            case 19: case 20: pay(); break;
            case 21: case 22: case 23: judge(); break;
            case 24: case 25: case 26: look(); break;
            case 27: appeal(); break;
            case 28: payFine(); break;
            case 29: case 30: fine(); break;
            case 31: debt(); break;
            case 32: tow(); break;
            case 33: case 34: streetIs(); break;
            case 35: tellCar(); break;
            default: pass(); break;
        }
    }

    private int street() {
        return from(0, run % 3 == 0 ? 3 : 1);
    }

    private int metre() {
        return from(0, 59);
    }

    private int oneOf(int what) {
        int size = p.sizes()[what];
        return yes(40) ? size : from(0, Math.max(size - 1, 0));
    }

    private int day() {
        return Math.min(Math.max(p.now() / 96 - 3 + from(0, 8), -1), 521);
    }

    private void block() {
        int street = street(), metre = metre();
        boolean is = yes(2);
        same("block(" + street + ", " + metre + ", " + is + ")", () -> k.block(street, metre, is) ? 1 : 0,
                p.block(street, metre, is));
    }

    private void times() {
        int weekdays = from(1, 127), from = from(0, 95), to = yes(2) ? from(1, 96) : Math.min(96, from + 50);
        same("times(" + weekdays + ", " + from + ", " + to + ")", () -> {
            k.times(weekdays, from, to);
            return PlainKerb.NOTHING;
        }, p.times(weekdays, from, to));
    }

    private void dates() {
        int from = day(), to = from + from(-1, 6);
        same("dates(" + from + ", " + to + ")", () -> {
            k.dates(from, to);
            return PlainKerb.NOTHING;
        }, p.dates(from, to));
    }

    private void sign() {
        int street = street(), start = metre(), end = yes(8) ? metre() : Math.min(59, start + below(40));
        int users = yes(2) ? from(0, 31) : 31, stay = yes(2) ? 0 : from(0, 8);
        boolean hasFee = yes(2), isTemporary = yes(4);
        same("sign(" + street + ", " + start + ", " + end + ", " + users + ", " + stay + ", " + hasFee + ", " + isTemporary
                + ")", () -> k.sign(street, start, end, users, stay, hasFee, isTemporary),
                p.sign(street, start, end, users, stay, hasFee, isTemporary));
    }

    private void takeDown() {
        int sign = oneOf(1);
        same("takeDown(" + sign + ")", () -> {
            k.takeDown(sign);
            return PlainKerb.NOTHING;
        }, p.takeDown(sign));
    }

    private void rule() {
        int street = street(), metre = metre(), quarter = yes(5) ? from(0, 49999) : Math.max(0, p.now() + from(-60, 400));
        String at = "(" + street + ", " + metre + ", " + quarter + ")";
        same("rule" + at, () -> k.rule(street, metre, quarter), p.rule(street, metre, quarter));
        same("ruleAnew" + at, () -> k.ruleAnew(street, metre, quarter), p.rule(street, metre, quarter));
    }

    private void tellCar() {
        int length = from(3, yes(3) ? 12 : 5), user = yes(2) ? 0 : from(0, 4);
        same("car(" + length + ", " + user + ")", () -> k.car(length, user), p.car(length, user));
    }

    private void permit() {
        int car = oneOf(0), street = street(), home = from(0, 9), from = day(), to = from + from(-1, 4);
        same("permit(" + car + ", " + street + ", " + home + ", " + from + ", " + to + ")",
                () -> k.permit(car, street, home, from, to), p.permit(car, street, home, from, to));
    }

    private void hand() {
        int permit = oneOf(2), car = oneOf(0);
        same("hand(" + permit + ", " + car + ")", () -> k.hand(permit, car), p.hand(permit, car));
    }

    private void countsAs() {
        int car = oneOf(0), street = street();
        same("countsAs(" + car + ", " + street + ")", () -> k.countsAs(car, street), p.countsAs(car, street));
    }

    private void park() {
        int car = oneOf(0), street = street();
        int gap = yes(3) || street < 0 || street > 3 ? KerbHours.NONE : (int) p.gap(street, 5);
        int metre = gap == KerbHours.NONE ? metre() : gap;
        same("park(" + car + ", " + street + ", " + metre + ")", () -> {
            k.park(car, street, metre);
            return PlainKerb.NOTHING;
        }, p.park(car, street, metre));
    }

    private void leave() {
        int car = oneOf(0);
        same("leave(" + car + ")", () -> k.leave(car), p.leave(car));
    }

    private void gap() {
        int street = street(), length = from(3, 12);
        same("gap(" + street + ", " + length + ")", () -> k.gap(street, length), p.gap(street, length));
    }

    private void pay() {
        int car = oneOf(0), street = street(), from = yes(4) ? from(p.now() - 97, p.now() + 1) : p.now() - below(5);
        int quarters = yes(3) ? from(1, 96) : 1 + below(8);
        same("pay(" + car + ", " + street + ", " + from + ", " + quarters + ")", () -> k.pay(car, street, from, quarters),
                p.pay(car, street, from, quarters));
    }

    private void judge() {
        int car = oneOf(0);
        long due = p.judge(car);
        if (due >= 0) {
            answers[(int) due]++;
        }
        same("judge(" + car + ")", () -> k.judge(car), due);
    }

    private void look() {
        int street = street();
        same("look(" + street + ")", () -> k.look(street), p.look(street));
    }

    private void appeal() {
        int fine = oneOf(3);
        same("appeal(" + fine + ")", () -> k.appeal(fine) ? 1 : 0, p.appeal(fine));
    }

    private void payFine() {
        int fine = oneOf(3);
        same("payFine(" + fine + ")", () -> k.payFine(fine), p.payFine(fine));
    }

    private void fine() {
        int fine = oneOf(3), what = from(0, 5);
        same("fine(" + fine + ", " + what + ")", () -> k.fine(fine, what), p.fine(fine, what));
    }

    private void debt() {
        int car = oneOf(0);
        same("debt(" + car + ")", () -> k.debt(car), p.debt(car));
    }

    private void tow() {
        int car = oneOf(0);
        same("tow(" + car + ")", () -> k.tow(car), p.tow(car));
    }

    private void streetIs() {
        int street = street(), what = from(0, 4);
        same("streetIs(" + street + ", " + what + ")", () -> k.streetIs(street, what), p.streetIs(street, what));
    }

    private void pass() {
        int quarters = from(1, mostPassed);
        same("pass(" + quarters + ")", () -> k.pass(quarters), p.pass(quarters));
    }
}
