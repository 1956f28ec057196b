/** Promises 16 to 23, line by line: pay, judge, look, appeal, payFine, fine, debt, tow. */
public final class FineCallsTest {
    private static final String NO_CAR = "Throws `IndexOutOfBoundsException` if there is no such car";
    private static final String NO_FINE = "Throws `IndexOutOfBoundsException` if there is no such fine";
    private static final int MIN = Integer.MIN_VALUE, MAX = Integer.MAX_VALUE;

    static final Sentence[] SENTENCES = {
        Sentence.promise(16, "Pays.", FineCallsTest::payPays),
        Sentence.promise(16, "`from`: now less 96 to now,", FineCallsTest::payFrom),
        Sentence.promise(16, "0 at least", FineCallsTest::payFromZeroAtLeast),
        Sentence.promise(16, "`quarters`: 1 to 96", FineCallsTest::payQuarters),
        Sentence.promise(16, "Returns the cost.", FineCallsTest::payReturns),
        Sentence.promise(16, "Throws `IndexOutOfBoundsException` if there is no such car or street",
                FineCallsTest::payNoCarOrStreet),
        Sentence.promise(16, "Throws `IllegalArgumentException` if from or quarters is out of range",
                FineCallsTest::payOutOfRange),
        Sentence.promise(16, "Throws `IllegalStateException` if there were 200", FineCallsTest::paymentsAreTwoHundred),
        Sentence.promise(17, "Returns the judgement of a car now.", FineCallsTest::judgeNow),
        Sentence.promise(17, "Returns FINE to UNPAID;", FineCallsTest::judgeReturns),
        Sentence.promise(17, "NONE if it does not stand.", FineCallsTest::judgeNone),
        Sentence.promise(17, NO_CAR, FineCallsTest::judgeNoCar),
        Sentence.promise(18, "Looks at a street.", FineCallsTest::lookLooks),
        Sentence.promise(18, "Returns how many fines are given.", FineCallsTest::lookReturns),
        Sentence.promise(18, "Throws `IndexOutOfBoundsException` if there is no such street",
                FineCallsTest::lookNoStreet),
        Sentence.promise(19, "Appeals against a fine.", FineCallsTest::appealAppeals),
        Sentence.promise(19, "Returns whether it is taken back.", FineCallsTest::appealReturns),
        Sentence.promise(19, NO_FINE, FineCallsTest::appealNoFine),
        Sentence.promise(19, "Throws `IllegalStateException` if there was an appeal,", FineCallsTest::appealTwice),
        Sentence.promise(19, "or it is paid", FineCallsTest::appealPaid),
        Sentence.promise(20, "Pays a fine.", FineCallsTest::payFinePays),
        Sentence.promise(20, "Returns how much it is.", FineCallsTest::payFineReturns),
        Sentence.promise(20, NO_FINE, FineCallsTest::payFineNoFine),
        Sentence.promise(20, "Throws `IllegalStateException` if it is paid", FineCallsTest::payFinePaid),
        Sentence.promise(20, "or taken back", FineCallsTest::payFineTakenBack),
        Sentence.promise(21, "Tells of a fine.", FineCallsTest::fineTells),
        Sentence.promise(21, "`what`: 0 its car, 1 its street, 2 its quarter, 3 its judgement,", FineCallsTest::fineWhat),
        Sentence.promise(21, "4 whether it was taken back (1 or 0),", FineCallsTest::fineTakenBack),
        Sentence.promise(21, "5 whether it is paid", FineCallsTest::finePaid),
        Sentence.promise(21, NO_FINE, FineCallsTest::fineNoFine),
        Sentence.promise(21, "Throws `IllegalArgumentException` if what is out of range",
                FineCallsTest::fineOutOfRange),
        Sentence.promise(22, "Returns the debt of a car.", FineCallsTest::debtReturns),
        Sentence.promise(22, NO_CAR, FineCallsTest::debtNoCar),
        Sentence.promise(23, "Tows a car.", FineCallsTest::towTows),
        Sentence.promise(23, "Returns its debt.", FineCallsTest::towReturns),
        Sentence.promise(23, NO_CAR, FineCallsTest::towNoCar),
        Sentence.promise(23, "Throws `IllegalStateException` if it does not stand,", FineCallsTest::towDoesNotStand),
        Sentence.promise(23, "or its debt is below 200", FineCallsTest::towDebtBelow),
        Sentence.term("rules, gaps, prices, fines, reasons, debts and money can be asked for.",
                FineCallsTest::askingForFinesChangesNothing),
    };

    private static final Twins BUSY = new Twins(Twins::busy);
    private static final Twins WITH_TWO_HUNDRED_PAYMENTS = new Twins(k -> {
        Moves.parked(k, 3, Moves.VISITOR, 0, 0);
        Moves.withFee(k, 0, 0, 59);
        for (int i = 0; i < 200; i++) {
            k.pay(0, i % 4, 0, 1);
        }
        k.pass(5);
    });

    public static void main(String[] args) {
        Sentence.runAll("FineCallsTest", SENTENCES);
    }

    private static KerbHours atQuarter(int quarter) {
        KerbHours k = new KerbHours();
        k.car(3, Moves.VISITOR);
        for (int now = 0; now < quarter;) {
            now = k.pass(Math.min(96, quarter - now));
        }
        return k;
    }

    // ---- pay

    private static void payPays(Check check) {
        KerbHours k = new KerbHours();
        Moves.withFee(k, 1, 0, 59);
        Moves.parked(k, 3, Moves.VISITOR, 1, 0);
        k.pass(3);
        check.is("judge ahead of it", k.judge(0), KerbHours.UNPAID);
        k.pay(0, 1, 3, 2);
        check.is("judge", k.judge(0), KerbHours.FINE);
        check.is("cost of its street", k.streetIs(1, 2), 8);
        check.is("cost of another street", k.streetIs(0, 2), 0);
        k.pass(1);
        check.is("judge at its last quarter", k.judge(0), KerbHours.FINE);
        k.pass(1);
        check.is("judge behind it", k.judge(0), KerbHours.UNPAID);
        check.is("the car need not stand there", k.pay(0, 0, 5, 1), 4);
    }

    private static void payFrom(Check check) {
        BUSY.refusesArgument(check, "from 103 on, at 200", k -> k.pay(4, 3, 103, 96));
        BUSY.refusesArgument(check, "from 201 on, at 200", k -> k.pay(4, 3, 201, 96));
        for (int now : new int[] {96, 97, 100, 300}) {
            KerbHours k = atQuarter(now);
            check.refusesArgument("97 ago at " + now, () -> k.pay(0, 0, now - 97, 1));
            check.accepts("96 ago at " + now, () -> k.pay(0, 0, now - 96, 1));
            check.accepts("now at " + now, () -> k.pay(0, 0, now, 1));
            check.refusesArgument("behind now at " + now, () -> k.pay(0, 0, now + 1, 1));
        }
    }

    private static void payFromZeroAtLeast(Check check) {
        for (int now : new int[] {0, 1, 50, 95, 96}) {
            KerbHours k = atQuarter(now);
            check.refusesArgument("from -1 on, at " + now, () -> k.pay(0, 0, -1, 1));
            check.accepts("from 0 on, at " + now, () -> k.pay(0, 0, 0, 1));
        }
        Twins twins = new Twins(k -> Moves.parked(k, 3, Moves.VISITOR, 0, 0));
        twins.refusesArgument(check, "from -1 on, at 0", k -> k.pay(0, 0, -1, 96));
    }

    private static void payQuarters(Check check) {
        BUSY.refusesArgument(check, "for 0 quarters", k -> k.pay(4, 3, 200, 0));
        BUSY.refusesArgument(check, "for 97 quarters", k -> k.pay(4, 3, 200, 97));
        KerbHours k = atQuarter(10);
        check.is("for 1 quarter", k.pay(0, 0, 10, 1), 4);
        check.is("for 96 quarters", k.pay(0, 0, 10, 96), 384);
    }

    private static void payReturns(Check check) {
        KerbHours k = atQuarter(95);
        check.is("5 by 4", k.pay(0, 2, 95, 5), 20);
        check.is("cost of the street", k.streetIs(2, 2), 20);
        k.pass(1);
        check.is("5 by 3", k.pay(0, 2, 95, 5), 15);
        check.is("cost of the street then", k.streetIs(2, 2), 35);
        Moves.passDays(k, 3);
        check.is("5 by 0", k.pay(0, 2, 384, 5), 0);
        check.is("cost of the street at last", k.streetIs(2, 2), 35);
    }

    private static void payNoCarOrStreet(Check check) {
        int[][] wrong = {{-1, 0}, {6, 0}, {29, 0}, {30, 0}, {MIN, 0}, {MAX, 0}, {0, -1}, {0, 4}, {0, MIN}, {0, MAX}, {6, 4}};
        for (int[] w : wrong) {
            String call = "pay(" + w[0] + ", " + w[1];
            BUSY.refusesIndex(check, call + ", 200, 1)", k -> k.pay(w[0], w[1], 200, 1));
            BUSY.refusesIndex(check, call + ", 201, 0)", k -> k.pay(w[0], w[1], 201, 0));
            WITH_TWO_HUNDRED_PAYMENTS.refusesIndex(check, call + ", 6, 0) as number 200",
                    k -> k.pay(w[0], w[1], 6, 0));
            WITH_TWO_HUNDRED_PAYMENTS.refusesIndex(check, call + ", 5, 1) as number 200",
                    k -> k.pay(w[0], w[1], 5, 1));
        }
        KerbHours k = new KerbHours();
        check.refusesIndex("pay(0, 0) without a car", () -> k.pay(0, 0, 0, 1));
        k.car(3, 0);
        k.car(3, 0);
        check.is("the first car and street", k.pay(0, 0, 0, 1), 4);
        check.is("the last car and street", k.pay(1, 3, 0, 1), 4);
    }

    private static void payOutOfRange(Check check) {
        int[][] wrong = {{MIN, 1}, {MAX, 1}, {-1, 1}, {5, MIN}, {5, MAX}, {5, -1}, {6, 0}, {6, 97}, {6, 1}, {5, 0}, {5, 97}};
        for (int[] w : wrong) {
            WITH_TWO_HUNDRED_PAYMENTS.refusesArgument(check, "pay from " + w[0] + " for " + w[1] + " as number 200",
                    k -> k.pay(0, 0, w[0], w[1]));
        }
        int[][] alone = {{MIN, 1}, {MAX, 1}, {-1, 1}, {200, MIN}, {200, MAX}, {200, -1}};
        for (int[] w : alone) {
            BUSY.refusesArgument(check, "pay from " + w[0] + " for " + w[1], k -> k.pay(4, 3, w[0], w[1]));
        }
    }

    private static void paymentsAreTwoHundred(Check check) {
        WITH_TWO_HUNDRED_PAYMENTS.refusesState(check, "payment 200", k -> k.pay(0, 0, 5, 96));
        KerbHours k = new KerbHours();
        k.car(3, Moves.VISITOR);
        for (int i = 0; i < 200; i++) {
            check.is("payment " + i, k.pay(0, i % 4, 0, 1), 4);
        }
        check.refusesState("payment 200", () -> k.pay(0, 0, 0, 1));
        check.is("cost", k.streetIs(0, 2), 200);
        k.pass(96);
        check.refusesState("payment 200, a day later", () -> k.pay(0, 3, 96, 1));
    }

    // ---- judge and look

    private static void judgeNow(Check check) {
        KerbHours k = FinesTest.withOne();
        k.times(127, 1, 2);
        Moves.letting(k, Moves.NOBODY, 0, 0, 59);
        check.is("at 0", k.judge(0), KerbHours.FINE);
        k.pass(1);
        check.is("at 1", k.judge(0), KerbHours.FORBIDDEN);
        k.pass(1);
        check.is("at 2", k.judge(0), KerbHours.FINE);
        k.takeDown(0);
        k.pass(95);
        check.is("at 97, taken down", k.judge(0), KerbHours.FINE);
    }

    private static void judgeReturns(Check check) {
        KerbHours k = FinesTest.withOneOfEachJudgement();
        int[] due = {1, 2, 3, 4, 0};
        for (int car = 0; car < 5; car++) {
            check.is("judge(" + car + ")", k.judge(car), due[car]);
        }
    }

    private static void judgeNone(Check check) {
        KerbHours k = new KerbHours();
        k.block(0, 0, true);
        k.car(3, Moves.VISITOR);
        check.is("it never stood", k.judge(0), -1);
        k.park(0, 0, 0);
        check.is("it stands", k.judge(0), KerbHours.BLOCKED);
        k.leave(0);
        check.is("it has left", k.judge(0), -1);
        KerbHours towed = FinesTest.owing190();
        towed.pass(96);
        towed.look(0);
        towed.tow(0);
        check.is("it was towed", towed.judge(0), -1);
    }

    private static void judgeNoCar(Check check) {
        for (int car : new int[] {-1, 6, 29, 30, MIN, MAX}) {
            BUSY.refusesIndex(check, "judge(" + car + ")", k -> k.judge(car));
        }
        KerbHours k = new KerbHours();
        check.refusesIndex("judge(0) without a car", () -> k.judge(0));
        k.car(3, 0);
        k.car(3, 0);
        check.is("the first car", k.judge(0), -1);
        check.is("the last car", k.judge(1), -1);
    }

    private static void lookLooks(Check check) {
        KerbHours k = FinesTest.withOneOfEachJudgement();
        k.look(1);
        check.refusesIndex("another street", () -> k.fine(0, 0));
        k.look(0);
        for (int i = 0; i < 4; i++) {
            int[] due = {i, 0, 3, i + 1, 0, 0};
            for (int what = 0; what < 6; what++) {
                check.is("fine(" + i + ", " + what + ")", k.fine(i, what), due[what]);
            }
        }
        check.is("fines of the street", k.streetIs(0, 3), 4);
        check.is("fines of another street", k.streetIs(1, 3), 0);
    }

    private static void lookReturns(Check check) {
        KerbHours k = FinesTest.withOneOfEachJudgement();
        check.is("nobody stands there", k.look(2), 0);
        check.is("four", k.look(0), 4);
        check.is("none again", k.look(0), 0);
        k.leave(1);
        k.pass(1);
        k.park(1, 0, 10);
        check.is("one more", k.look(0), 1);
        k.pass(96);
        check.is("all four on the next day", k.look(0), 4);
    }

    private static void lookNoStreet(Check check) {
        for (int street : new int[] {-1, 4, MIN, MAX}) {
            BUSY.refusesIndex(check, "look(" + street + ")", k -> k.look(street));
        }
        check.is("the first street", new KerbHours().look(0), 0);
        check.is("the last street", new KerbHours().look(3), 0);
    }

    // ---- appeal

    /** Car 3 of withOneOfEachJudgement has fine 3: it is paid for afterwards. */
    private static KerbHours withFinePaidForLater() {
        KerbHours k = FinesTest.withOneOfEachJudgement();
        k.look(0);
        k.pay(3, 0, 3, 1);
        return k;
    }

    private static void appealAppeals(Check check) {
        KerbHours k = withFinePaidForLater();
        k.appeal(3);
        check.is("taken back", k.fine(3, 4), 1);
        check.is("debt", k.debt(3), 0);
        for (int i = 0; i < 3; i++) {
            check.is("another fine", k.fine(i, 4), 0);
        }
        check.is("fines given stay given", k.streetIs(0, 3), 4);
    }

    private static void appealReturns(Check check) {
        KerbHours k = withFinePaidForLater();
        for (int i = 0; i < 4; i++) {
            check.is("appeal(" + i + ")", k.appeal(i), i == 3);
        }
    }

    private static void appealNoFine(Check check) {
        for (int fine : new int[] {-1, 6, 59, 60, MIN, MAX}) {
            BUSY.refusesIndex(check, "appeal(" + fine + ")", k -> k.appeal(fine));
        }
        check.refusesIndex("appeal(0) without a fine", () -> new KerbHours().appeal(0));
        KerbHours k = withFinePaidForLater();
        check.refusesIndex("appeal(4) of four", () -> k.appeal(4));
        check.accepts("the first", () -> k.appeal(0));
        check.accepts("the last", () -> k.appeal(3));
    }

    private static void appealTwice(Check check) {
        BUSY.refusesState(check, "one taken back", k -> k.appeal(0));
        BUSY.refusesState(check, "one in vain", k -> k.appeal(2));
        Twins twins = new Twins(k -> {
            Moves.parked(k, 3, Moves.VISITOR, 0, 0);
            Moves.withFee(k, 0, 0, 59);
            k.pass(2);
            k.look(0);
            k.appeal(0);
            k.pay(0, 0, 2, 1);
        });
        twins.refusesState(check, "one in vain that would be taken back now", k -> k.appeal(0));
    }

    private static void appealPaid(Check check) {
        BUSY.refusesState(check, "a paid one", k -> k.appeal(1));
        Twins twins = new Twins(k -> {
            Moves.parked(k, 3, Moves.VISITOR, 0, 0);
            Moves.withFee(k, 0, 0, 59);
            k.pass(2);
            k.look(0);
            k.pay(0, 0, 2, 1);
            k.payFine(0);
        });
        twins.refusesState(check, "a paid one that would be taken back now", k -> k.appeal(0));
        KerbHours k = withFinePaidForLater();
        k.appeal(0);
        k.payFine(0);
        check.refusesState("both appealed and paid", () -> k.appeal(0));
    }

    // ---- payFine and fine

    private static void payFinePays(Check check) {
        KerbHours k = withFinePaidForLater();
        k.payFine(1);
        check.is("paid", k.fine(1, 5), 1);
        check.is("debt", k.debt(1), 0);
        check.is("another one", k.fine(0, 5), 0);
        check.is("debt of another one", k.debt(0), 100);
        check.is("no payment for the street", k.streetIs(0, 2), 4);
        k.appeal(2);
        check.accepts("one appealed in vain", () -> k.payFine(2));
        k.leave(0);
        check.accepts("one of a car that has left", () -> k.payFine(0));
    }

    private static void payFineReturns(Check check) {
        KerbHours k = FinesTest.withOneOfEachJudgement();
        k.look(0);
        check.is("BLOCKED", k.payFine(0), 100);
        check.is("FORBIDDEN", k.payFine(1), 60);
        check.is("OVERSTAYED", k.payFine(2), 30);
        check.is("UNPAID", k.payFine(3), 40);
    }

    private static void payFineNoFine(Check check) {
        for (int fine : new int[] {-1, 6, 59, 60, MIN, MAX}) {
            BUSY.refusesIndex(check, "payFine(" + fine + ")", k -> k.payFine(fine));
        }
        check.refusesIndex("payFine(0) without a fine", () -> new KerbHours().payFine(0));
        KerbHours k = withFinePaidForLater();
        check.refusesIndex("payFine(4) of four", () -> k.payFine(4));
        check.is("the first", k.payFine(0), 100);
        check.is("the last", k.payFine(3), 40);
    }

    private static void payFinePaid(Check check) {
        BUSY.refusesState(check, "a paid one", k -> k.payFine(1));
        KerbHours k = withFinePaidForLater();
        k.payFine(3);
        check.refusesState("twice", () -> k.payFine(3));
        check.is("debt", k.debt(3), 0);
    }

    private static void payFineTakenBack(Check check) {
        BUSY.refusesState(check, "one taken back", k -> k.payFine(0));
        KerbHours k = withFinePaidForLater();
        k.appeal(3);
        check.refusesState("right behind its appeal", () -> k.payFine(3));
        check.is("it is not paid", k.fine(3, 5), 0);
        k.appeal(2);
        check.is("one appealed in vain", k.payFine(2), 30);
    }

    private static void fineTells(Check check) {
        KerbHours k = withFinePaidForLater();
        k.appeal(3);
        k.payFine(2);
        int[][] due = {{0, 0, 3, 1, 0, 0}, {1, 0, 3, 2, 0, 0}, {2, 0, 3, 3, 0, 1}, {3, 0, 3, 4, 1, 0}};
        for (int i = 0; i < 4; i++) {
            for (int what = 0; what < 6; what++) {
                check.is("fine(" + i + ", " + what + ")", k.fine(i, what), due[i][what]);
            }
        }
    }

    private static void fineWhat(Check check) {
        KerbHours k = new KerbHours();
        k.car(3, Moves.VISITOR);
        k.car(3, Moves.VISITOR);
        Moves.parked(k, 3, Moves.VISITOR, 3, 10);
        k.block(3, 12, true);
        k.pass(96);
        k.pass(54);
        k.look(3);
        k.pass(5);
        k.leave(2);
        k.park(2, 1, 0);
        k.block(3, 12, false);
        check.is("its car", k.fine(0, 0), 2);
        check.is("its street", k.fine(0, 1), 3);
        check.is("its quarter", k.fine(0, 2), 150);
        check.is("its judgement", k.fine(0, 3), KerbHours.BLOCKED);
    }

    private static void fineTakenBack(Check check) {
        KerbHours k = withFinePaidForLater();
        check.is("ahead of the appeal", k.fine(3, 4), 0);
        k.appeal(3);
        k.appeal(2);
        k.payFine(1);
        check.is("taken back", k.fine(3, 4), 1);
        check.is("in vain", k.fine(2, 4), 0);
        check.is("paid", k.fine(1, 4), 0);
    }

    private static void finePaid(Check check) {
        KerbHours k = withFinePaidForLater();
        check.is("ahead of the payment", k.fine(1, 5), 0);
        k.payFine(1);
        k.appeal(3);
        check.is("paid", k.fine(1, 5), 1);
        check.is("taken back", k.fine(3, 5), 0);
        check.is("another one", k.fine(0, 5), 0);
    }

    private static void fineNoFine(Check check) {
        for (int fine : new int[] {-1, 6, 59, 60, MIN, MAX}) {
            for (int what : new int[] {0, 5, -1, 6}) {
                BUSY.refusesIndex(check, "fine(" + fine + ", " + what + ")", k -> k.fine(fine, what));
            }
        }
        check.refusesIndex("fine(0, 0) without a fine", () -> new KerbHours().fine(0, 0));
        KerbHours k = withFinePaidForLater();
        check.refusesIndex("fine(4, 0) of four", () -> k.fine(4, 0));
        check.is("the first", k.fine(0, 0), 0);
        check.is("the last", k.fine(3, 0), 3);
    }

    private static void fineOutOfRange(Check check) {
        for (int what : new int[] {-1, 6, MIN, MAX}) {
            BUSY.refusesArgument(check, "fine(0, " + what + ")", k -> k.fine(0, what));
            BUSY.refusesArgument(check, "fine(5, " + what + ")", k -> k.fine(5, what));
        }
        KerbHours k = withFinePaidForLater();
        check.is("the first what", k.fine(1, 0), 1);
        check.is("the last what", k.fine(1, 5), 0);
    }

    // ---- debt and tow

    private static void debtReturns(Check check) {
        KerbHours k = FinesTest.withOne();
        check.is("without a fine", k.debt(0), 0);
        k.block(0, 0, true);
        k.look(0);
        check.is("one", k.debt(0), 100);
        k.pass(96);
        k.look(0);
        check.is("two", k.debt(0), 200);
        k.payFine(1);
        check.is("one paid", k.debt(0), 100);
    }

    private static void debtNoCar(Check check) {
        for (int car : new int[] {-1, 6, 29, 30, MIN, MAX}) {
            BUSY.refusesIndex(check, "debt(" + car + ")", k -> k.debt(car));
        }
        KerbHours k = new KerbHours();
        check.refusesIndex("debt(0) without a car", () -> k.debt(0));
        k.car(3, 0);
        k.car(3, 0);
        check.is("the first car", k.debt(0), 0);
        check.is("the last car", k.debt(1), 0);
    }

    /** Two cars that stand and owe 200 each. */
    private static void owingTwoHundred(KerbHours k) {
        Moves.parked(k, 5, Moves.VISITOR, 1, 0);
        Moves.parked(k, 4, Moves.VISITOR, 1, 10);
        k.block(1, 0, true);
        k.block(1, 10, true);
        k.look(1);
        k.pass(96);
        k.look(1);
    }

    private static KerbHours owingTwoHundred() {
        KerbHours k = new KerbHours();
        owingTwoHundred(k);
        return k;
    }

    private static void towTows(Check check) {
        KerbHours k = owingTwoHundred();
        k.tow(0);
        check.is("it stands no more", k.judge(0), -1);
        check.is("its metres are free", k.streetIs(1, 1), 4);
        check.is("its place is free", k.gap(1, 9), 0);
        check.is("the other one stands", k.judge(1), KerbHours.BLOCKED);
        check.is("it still owes", k.debt(0), 200);
    }

    private static void towReturns(Check check) {
        KerbHours k = owingTwoHundred();
        check.is("200", k.tow(0), 200);
        k.pass(96);
        k.look(1);
        check.is("300", k.tow(1), 300);
    }

    private static void towNoCar(Check check) {
        for (int car : new int[] {-1, 6, 29, 30, MIN, MAX}) {
            BUSY.refusesIndex(check, "tow(" + car + ")", k -> k.tow(car));
        }
        check.refusesIndex("tow(0) without a car", () -> new KerbHours().tow(0));
        KerbHours k = owingTwoHundred();
        check.refusesIndex("tow(2) of two", () -> k.tow(2));
        check.is("the last car", k.tow(1), 200);
        check.is("the first car", k.tow(0), 200);
    }

    private static void towDoesNotStand(Check check) {
        Twins left = new Twins(k -> {
            owingTwoHundred(k);
            k.leave(0);
        });
        left.refusesState(check, "it has left", k -> k.tow(0));
        Twins towed = new Twins(k -> {
            owingTwoHundred(k);
            k.tow(0);
        });
        towed.refusesState(check, "it was towed", k -> k.tow(0));
        BUSY.refusesState(check, "it has left, and owes nothing", k -> k.tow(1));
        KerbHours k = owingTwoHundred();
        k.leave(0);
        k.park(0, 3, 0);
        check.is("it stands anew", k.tow(0), 200);
    }

    private static void towDebtBelow(Check check) {
        BUSY.refusesState(check, "it owes little", k -> k.tow(0));
        BUSY.refusesState(check, "it owes nothing", k -> k.tow(2));
        Twins paid = new Twins(k -> {
            owingTwoHundred(k);
            k.payFine(0);
        });
        paid.refusesState(check, "it paid one of two", k -> k.tow(0));
        KerbHours k = FinesTest.owing190();
        check.refusesState("it owes 190", () -> k.tow(0));
        check.is("it stands still", k.judge(0), KerbHours.OVERSTAYED);
        check.is("it owes 200", owingTwoHundred().tow(0), 200);
    }

    private static void askingForFinesChangesNothing(Check check) {
        for (int car = 0; car < 6; car++) {
            int of = car;
            BUSY.isUnchangedBy(check, "judge(" + car + ")", k -> k.judge(of));
            BUSY.isUnchangedBy(check, "debt(" + car + ")", k -> k.debt(of));
        }
        for (int what = 0; what < 6; what++) {
            int of = what;
            BUSY.isUnchangedBy(check, "fine(4, " + what + ")", k -> k.fine(4, of));
        }
    }
}
