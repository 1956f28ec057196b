import java.util.function.Consumer;

/** What the terms say of all calls: what is told and what is asked, which exception goes first, what a refusal leaves. */
public final class RefusalsTest {
    static final Sentence[] SENTENCES = {
        Sentence.term("Signs, cars, permits, payments, looks, appeals and quarters are told;", RefusalsTest::whatIsTold),
        Sentence.term("rules, gaps, prices, fines, reasons, debts and money can be asked for.", RefusalsTest::whatIsAsked),
        Sentence.term("A method throws IndexOutOfBoundsException if there is no such street,", RefusalsTest::noStreet),
        Sentence.term("metre,", RefusalsTest::noMetre),
        Sentence.term("sign,", RefusalsTest::noSign),
        Sentence.term("car,", RefusalsTest::noCar),
        Sentence.term("home,", RefusalsTest::noHome),
        Sentence.term("permit or fine,", RefusalsTest::noPermitOrFine),
        Sentence.term("IllegalArgumentException if another argument is out of range,", RefusalsTest::outOfRange),
        Sentence.term("and IllegalStateException as it documents;", RefusalsTest::states),
        Sentence.term("if several apply, the one that it lists first is thrown.", RefusalsTest::indexGoesFirst),
        Sentence.term("if several apply, the one that it lists first is thrown.", RefusalsTest::argumentGoesAheadOfState),
        Sentence.term("A call that throws changes nothing.", RefusalsTest::changesNothing),
    };

    /** A call that is refused, by its name. */
    private record Refused(String name, Consumer<KerbHours> call) {
    }

    private static final Class<IndexOutOfBoundsException> INDEX = IndexOutOfBoundsException.class;
    private static final Class<IllegalArgumentException> ARGUMENT = IllegalArgumentException.class;
    private static final Class<IllegalStateException> STATE = IllegalStateException.class;
    private static final Twins BUSY = new Twins(Twins::busy);
    /** As many signs, cars and permits as there may be; car 0 stands. */
    private static final Twins FULL = new Twins(RefusalsTest::full);

    public static void main(String[] args) {
        Sentence.runAll("RefusalsTest", SENTENCES);
    }

    /** 150 payments alone, for the probes of the twins are calls too, and an object is good for 512. */
    private static void full(KerbHours k) {
        for (int i = 0; i < 30; i++) {
            k.sign(0, 0, 59, 31, 0, false, false);
            k.car(3, 0);
        }
        for (int i = 0; i < 40; i++) {
            k.permit(0, 0, i / 4, i % 4, i % 4);
        }
        for (int i = 0; i < 150; i++) {
            k.pay(0, 0, 0, 1);
        }
        k.park(0, 0, 0);
    }

    private static void fillPayments(KerbHours k) {
        for (int i = 0; i < 50; i++) {
            k.pay(0, 1, 0, 1);
        }
    }

    private static void whatIsTold(Check check) {
        KerbHours k = new KerbHours();
        check.is("a car", k.car(3, Moves.RESIDENT), 0);
        check.is("a sign", k.sign(0, 0, 59, 1, 0, true, false), 0);
        k.park(0, 0, 0);
        check.is("judged by the sign", k.judge(0), KerbHours.FORBIDDEN);
        check.is("a look", k.look(0), 1);
        check.is("a permit", k.permit(0, 0, 0, 0, 0), 0);
        check.is("judged by the permit", k.judge(0), KerbHours.FINE);
        check.is("an appeal", k.appeal(0), true);
        check.is("quarters", k.pass(2), 2);
        check.is("judged by the quarters", k.judge(0), KerbHours.UNPAID);
        check.is("a payment", k.pay(0, 0, 2, 1), 4);
        check.is("judged by the payment", k.judge(0), KerbHours.FINE);
    }

    private static void whatIsAsked(Check check) {
        BUSY.isUnchangedBy(check, "everything asked", k -> {
            for (int i = 0; i < 4; i++) {
                k.rule(i, 10, 200);
                k.ruleAnew(i, 10, 200);
                k.gap(i, 3 + i);
                k.countsAs(i, i);
                k.judge(i);
                k.debt(i);
                k.fine(i, i);
                k.streetIs(i, i);
            }
        });
    }

    private static void refuse(Check check, Twins twins, Class<? extends RuntimeException> due, Refused... refused) {
        for (Refused r : refused) {
            twins.refuses(check, r.name, due, r.call);
        }
    }

    private static void index(Check check, Refused... refused) {
        refuse(check, BUSY, INDEX, refused);
    }

    private static Refused call(String name, Consumer<KerbHours> call) {
        return new Refused(name, call);
    }

    private static void noStreet(Check check) {
        for (int s : new int[] {-1, 4}) {
            index(check, call("block", k -> k.block(s, 0, true)), call("sign", k -> Moves.plain(k, s, 0, 0)),
                    call("rule", k -> k.rule(s, 0, 0)), call("ruleAnew", k -> k.ruleAnew(s, 0, 0)),
                    call("permit", k -> k.permit(0, s, 5, 0, 0)), call("countsAs", k -> k.countsAs(0, s)),
                    call("park", k -> k.park(1, s, 0)), call("gap", k -> k.gap(s, 3)),
                    call("pay", k -> k.pay(0, s, 200, 1)), call("look", k -> k.look(s)),
                    call("streetIs", k -> k.streetIs(s, 0)));
        }
    }

    private static void noMetre(Check check) {
        for (int m : new int[] {-1, 60}) {
            index(check, call("block", k -> k.block(0, m, true)), call("sign from", k -> Moves.plain(k, 0, m, 59)),
                    call("sign to", k -> Moves.plain(k, 0, 0, m)), call("rule", k -> k.rule(0, m, 0)),
                    call("ruleAnew", k -> k.ruleAnew(0, m, 0)), call("park", k -> k.park(1, 0, m)));
        }
    }

    private static void noSign(Check check) {
        index(check, call("takeDown(-1)", k -> k.takeDown(-1)), call("takeDown(5) of five", k -> k.takeDown(5)));
    }

    private static void noCar(Check check) {
        for (int c : new int[] {-1, 6}) {
            index(check, call("permit", k -> k.permit(c, 0, 5, 0, 0)), call("hand", k -> k.hand(0, c)),
                    call("countsAs", k -> k.countsAs(c, 0)), call("park", k -> k.park(c, 3, 30)),
                    call("leave", k -> k.leave(c)), call("pay", k -> k.pay(c, 0, 200, 1)),
                    call("judge", k -> k.judge(c)), call("debt", k -> k.debt(c)), call("tow", k -> k.tow(c)));
        }
    }

    private static void noHome(Check check) {
        index(check, call("home -1", k -> k.permit(0, 0, -1, 0, 0)), call("home 10", k -> k.permit(0, 0, 10, 0, 0)));
    }

    private static void noPermitOrFine(Check check) {
        index(check, call("hand(-1)", k -> k.hand(-1, 0)), call("hand(3) of three", k -> k.hand(3, 0)));
        for (int f : new int[] {-1, 6}) {
            index(check, call("appeal", k -> k.appeal(f)), call("payFine", k -> k.payFine(f)),
                    call("fine", k -> k.fine(f, 0)));
        }
    }

    private static void outOfRange(Check check) {
        Refused[] refused = {
            call("times", k -> k.times(0, 0, 96)), call("dates", k -> k.dates(0, 521)),
            call("sign", k -> k.sign(0, 0, 0, 32, 0, false, false)), call("rule", k -> k.rule(0, 0, 50000)),
            call("ruleAnew", k -> k.ruleAnew(0, 0, 50000)), call("car", k -> k.car(13, 0)),
            call("permit", k -> k.permit(0, 0, 5, 0, 521)), call("gap", k -> k.gap(0, 13)),
            call("pay", k -> k.pay(0, 0, 200, 97)), call("fine", k -> k.fine(0, 6)),
            call("streetIs", k -> k.streetIs(0, 5)), call("pass", k -> k.pass(97)),
        };
        refuse(check, BUSY, ARGUMENT, refused);
    }

    private static void states(Check check) {
        Refused[] refused = {
            call("takeDown", k -> k.takeDown(3)), call("permit", k -> k.permit(1, 1, 0, 2, 2)),
            call("park", k -> k.park(0, 3, 50)), call("leave", k -> k.leave(1)), call("appeal", k -> k.appeal(0)),
            call("payFine", k -> k.payFine(0)), call("tow", k -> k.tow(0)),
        };
        refuse(check, BUSY, STATE, refused);
        Refused[] full = {
            call("sign", k -> Moves.plain(k, 0, 0, 0)), call("car", k -> k.car(3, 0)),
            call("permit", k -> k.permit(0, 0, 0, 500, 500)),
        };
        refuse(check, FULL, STATE, full);
        KerbHours k = new KerbHours();
        full(k);
        fillPayments(k);
        check.refusesState("pay", () -> k.pay(0, 0, 0, 1));
    }

    /** No such place or car goes ahead of an argument out of range, and both ahead of a state. */
    private static void indexGoesFirst(Check check) {
        Refused[] refused = {
            call("sign of no street", k -> k.sign(4, 5, 4, 32, 97, true, true)),
            call("sign from no metre", k -> k.sign(0, 60, 4, 32, 97, true, true)),
            call("sign to no metre", k -> k.sign(0, 5, -1, 32, 97, true, true)),
            call("rule of no street", k -> k.rule(4, 0, 50000)), call("rule of no metre", k -> k.rule(0, 60, -1)),
            call("ruleAnew of no street", k -> k.ruleAnew(4, 0, 50000)),
            call("ruleAnew of no metre", k -> k.ruleAnew(0, 60, -1)),
            call("permit of no car", k -> k.permit(30, 0, 0, 5, 4)),
            call("permit of no street", k -> k.permit(0, 4, 0, 5, 4)),
            call("permit of no home", k -> k.permit(0, 0, 10, 5, 4)),
            call("permit of no home, though full", k -> k.permit(0, 0, 10, 0, 0)),
            call("park on no street, though it stands", k -> k.park(0, 4, 0)),
            call("park at no metre, though it stands", k -> k.park(0, 0, 60)),
            call("gap of no street", k -> k.gap(4, 2)), call("pay for no car", k -> k.pay(30, 0, 1, 0)),
            call("pay for no street", k -> k.pay(0, 4, 1, 0)), call("fine of no fine", k -> k.fine(0, 6)),
            call("streetIs of no street", k -> k.streetIs(4, 5)),
        };
        refuse(check, FULL, INDEX, refused);
    }

    private static void argumentGoesAheadOfState(Check check) {
        Refused[] refused = {
            call("sign 30 from 5 to 4", k -> Moves.plain(k, 0, 5, 4)),
            call("sign 30 for users 32", k -> Moves.letting(k, 32, 0, 0, 0)),
            call("sign 30 for stay 97", k -> Moves.withStay(k, 97, 0, 0, 0)),
            call("car 30 of 13 metres", k -> k.car(13, 0)), call("car 30 of user 5", k -> k.car(3, 5)),
            call("permit 40 from 5 to 4", k -> k.permit(0, 0, 0, 5, 4)),
            call("permit 40 to 521", k -> k.permit(0, 0, 0, 0, 521)),
        };
        refuse(check, FULL, ARGUMENT, refused);
        KerbHours k = new KerbHours();
        full(k);
        fillPayments(k);
        check.refusesArgument("payment 200 for 0", () -> k.pay(0, 0, 0, 0));
        check.refusesArgument("payment 200 from 1 on", () -> k.pay(0, 0, 1, 1));
        check.refusesState("payment 200", () -> k.pay(0, 0, 0, 1));
    }

    /** Many refused calls, one behind the other: the object is as it was. */
    private static void changesNothing(Check check) {
        BUSY.isUnchangedBy(check, "many refused calls", k -> {
            Consumer<Runnable> refused = body -> check.holds("refused", isRefused(body));
            refused.accept(() -> k.block(0, 60, true));
            refused.accept(() -> k.times(127, 50, 50));
            refused.accept(() -> k.dates(521, 521));
            refused.accept(() -> k.sign(0, 0, 59, 0, 97, true, false));
            refused.accept(() -> k.takeDown(3));
            refused.accept(() -> k.car(13, 0));
            refused.accept(() -> k.permit(1, 1, 0, 2, 3));
            refused.accept(() -> k.hand(1, 6));
            refused.accept(() -> k.park(1, 0, 29));
            refused.accept(() -> k.leave(1));
            refused.accept(() -> k.pay(4, 3, 200, 97));
            refused.accept(() -> k.look(4));
            refused.accept(() -> k.appeal(2));
            refused.accept(() -> k.payFine(0));
            refused.accept(() -> k.tow(0));
            refused.accept(() -> k.pass(97));
        });
    }

    private static boolean isRefused(Runnable body) {
        try {
            body.run();
            return false;
        } catch (RuntimeException e) {
            return true;
        }
    }
}
