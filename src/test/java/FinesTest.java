/** What the terms say of payments, judgements, looks, fines, appeals, debts and towing. */
public final class FinesTest {
    private static final String OVERSTAYED_IF = "otherwise OVERSTAYED, if it has stood more quarters than the stay, and 1, "
            + "of the sign that counts at its first metre,";

    static final Sentence[] SENTENCES = {
        Sentence.term("A payment is of a car", FinesTest::paymentOfACar),
        Sentence.term("and a street,", FinesTest::paymentOfAStreet),
        Sentence.term("from a quarter on,", FinesTest::paymentFromAQuarterOn),
        Sentence.term("96 quarters ago at most,", FinesTest::paymentToldLate),
        Sentence.term("and not behind now,", FinesTest::paymentNotBehindNow),
        Sentence.term("for so many;", FinesTest::paymentForSoMany),
        Sentence.term("it costs their number times the price of the street by now,", FinesTest::costs),
        Sentence.term("4 at first.", FinesTest::priceIsFourAtFirst),
        Sentence.term("A judgement of a car that stands, at a quarter:", FinesTest::judgementOfACarThatStands),
        Sentence.term("BLOCKED, if one of its metres is blocked;", FinesTest::blockedAtOneMetre),
        Sentence.term("BLOCKED, if one of its metres is blocked;", FinesTest::blockedGoesAheadOfAll),
        Sentence.term("otherwise FORBIDDEN, if the sign that counts at one of its metres", FinesTest::forbiddenAtOneMetre),
        Sentence.term("otherwise FORBIDDEN,", FinesTest::forbiddenGoesAhead),
        Sentence.term("does not let its user stand,", FinesTest::forbiddenByTheSignThatCounts),
        Sentence.term("as it counts then;", FinesTest::forbiddenAsItCountsThen),
        Sentence.term(OVERSTAYED_IF, FinesTest::overstayedByMoreThanTheStayAndOne),
        Sentence.term(OVERSTAYED_IF, FinesTest::overstayedAtTheFirstMetre),
        Sentence.term("otherwise OVERSTAYED,", FinesTest::overstayedGoesAhead),
        Sentence.term("if that has one;", FinesTest::overstayedIfThereIsAStay),
        Sentence.term("otherwise UNPAID, if that sign has a fee,", FinesTest::unpaidAtTheFirstMetre),
        Sentence.term("the car has stood more than 1 quarter,", FinesTest::unpaidBehindOneQuarter),
        Sentence.term("and no payment for the street covers this one;", FinesTest::unpaidIfNoneCovers),
        Sentence.term("otherwise FINE.", FinesTest::otherwiseFine),
        Sentence.term("A look at a street judges all cars that stand there,", FinesTest::lookAtAllThatStandThere),
        Sentence.term("by their numbers.", FinesTest::lookByTheirNumbers),
        Sentence.term("One that is not FINE gets a fine,", FinesTest::notFineGetsAFine),
        Sentence.term("numbered from 0,", FinesTest::finesAreNumbered),
        Sentence.term("at most 60, more are not given;", FinesTest::finesAreSixty),
        Sentence.term("but one that has a fine, given on this day", FinesTest::oneFineOnADay),
        Sentence.term("since it parked there,", FinesTest::sinceItParkedThere),
        Sentence.term("taken back or not, does not.", FinesTest::takenBackOrNot),
        Sentence.term("Fines are of 100, 60, 30 and 40, as BLOCKED to UNPAID.", FinesTest::amounts),
        Sentence.term("By an appeal, once,", FinesTest::appealOnce),
        Sentence.term("a fine is judged again, for its quarter,", FinesTest::appealForItsQuarter),
        Sentence.term("a fine is judged again, for its quarter,", FinesTest::appealForItsPlace),
        Sentence.term("by all signs that hold at that,", FinesTest::appealByAllSigns),
        Sentence.term("by permits", FinesTest::appealByPermits),
        Sentence.term("and payments told by now,", FinesTest::appealByPayments),
        Sentence.term("and by blocked metres as they were at the look;", FinesTest::appealByBlockedMetres),
        Sentence.term("it is taken back, if that is FINE now,", FinesTest::takenBackIfFineNow),
        Sentence.term("and it was not paid;", FinesTest::notTakenBackIfPaid),
        Sentence.term("otherwise it stays as it was given.", FinesTest::staysAsItWasGiven),
        Sentence.term("The debt of a car are its fines that are neither paid nor taken back, together.", FinesTest::debt),
        Sentence.term("A car that stands, with a debt of 200 or more, can be towed:", FinesTest::canBeTowed),
        Sentence.term("it stands no more.", FinesTest::towedStandsNoMore),
    };

    public static void main(String[] args) {
        Sentence.runAll("FinesTest", SENTENCES);
    }

    /** A car of 3 metres, a visitor, that stands at metre 0 of street 0. */
    static KerbHours withOne() {
        KerbHours k = new KerbHours();
        Moves.parked(k, 3, Moves.VISITOR, 0, 0);
        return k;
    }

    /** The same on a street with a fee. */
    private static KerbHours withFee() {
        KerbHours k = withOne();
        Moves.withFee(k, 0, 0, 59);
        return k;
    }

    /** The same on a street on which nobody may stand. */
    private static KerbHours withForbidden() {
        KerbHours k = withOne();
        Moves.letting(k, Moves.NOBODY, 0, 0, 59);
        return k;
    }

    // ---- payments

    private static void paymentOfACar(Check check) {
        KerbHours k = withFee();
        Moves.parked(k, 3, Moves.VISITOR, 0, 10);
        k.pass(2);
        k.pay(1, 0, 0, 96);
        check.is("the car that paid", k.judge(1), KerbHours.FINE);
        check.is("another one", k.judge(0), KerbHours.UNPAID);
        k.pay(0, 0, 2, 1);
        check.is("another one, paid too", k.judge(0), KerbHours.FINE);
    }

    private static void paymentOfAStreet(Check check) {
        KerbHours k = withFee();
        k.pass(2);
        for (int street = 1; street < 4; street++) {
            k.pay(0, street, 0, 96);
            check.is("paid for street " + street, k.judge(0), KerbHours.UNPAID);
        }
        k.pay(0, 0, 0, 96);
        check.is("paid for its street", k.judge(0), KerbHours.FINE);
    }

    private static void paymentFromAQuarterOn(Check check) {
        KerbHours k = withFee();
        k.pass(9);
        k.look(0);
        k.pass(1);
        k.pay(0, 0, 10, 5);
        check.is("the quarter ahead of it", k.appeal(0), false);
        check.is("its first quarter", k.judge(0), KerbHours.FINE);
    }

    private static void paymentToldLate(Check check) {
        KerbHours k = withFee();
        k.pass(4);
        k.look(0);
        k.pass(96);
        check.refusesArgument("97 quarters ago", () -> k.pay(0, 0, 3, 2));
        check.is("96 quarters ago", k.pay(0, 0, 4, 1), 3);
        check.is("it covers that quarter", k.appeal(0), true);
    }

    private static void paymentNotBehindNow(Check check) {
        KerbHours k = withFee();
        k.pass(4);
        check.refusesArgument("from the next quarter on", () -> k.pay(0, 0, 5, 1));
        check.is("from now on", k.pay(0, 0, 4, 1), 4);
    }

    private static void paymentForSoMany(Check check) {
        KerbHours k = withFee();
        k.pass(2);
        k.pay(0, 0, 2, 1);
        check.is("its one quarter", k.judge(0), KerbHours.FINE);
        k.pass(1);
        check.is("the quarter behind it", k.judge(0), KerbHours.UNPAID);
        k.pay(0, 0, 3, 96);
        check.is("the first of 96", k.judge(0), KerbHours.FINE);
        k.pass(95);
        check.is("the last of 96", k.judge(0), KerbHours.FINE);
        k.pass(1);
        check.is("the one behind 96", k.judge(0), KerbHours.UNPAID);
    }

    private static void costs(Check check) {
        KerbHours k = new KerbHours();
        k.car(3, Moves.VISITOR);
        check.is("1 by 4", k.pay(0, 0, 0, 1), 4);
        check.is("96 by 4", k.pay(0, 0, 0, 96), 384);
        k.pass(95);
        check.is("7 by 4, on the last quarter of the day", k.pay(0, 0, 95, 7), 28);
        k.pass(1);
        check.is("7 by 3, for quarters of the day ahead", k.pay(0, 0, 0, 7), 21);
        Moves.passDays(k, 3);
        check.is("96 by 0", k.pay(0, 0, 4 * 96, 96), 0);
        KerbHours full = new KerbHours();
        for (int i = 0; i < 4; i++) {
            Moves.parked(full, 12, Moves.VISITOR, 1, i * 13);
        }
        Moves.parked(full, 3, Moves.VISITOR, 1, 52);
        full.pass(96);
        check.is("7 by 5", full.pay(0, 1, 96, 7), 35);
        check.is("7 by 3, of another street", full.pay(0, 0, 96, 7), 21);
    }

    private static void priceIsFourAtFirst(Check check) {
        KerbHours k = new KerbHours();
        k.car(3, Moves.VISITOR);
        for (int street = 0; street < 4; street++) {
            check.is("price of " + street, k.streetIs(street, 0), 4);
            check.is("cost of 1 at " + street, k.pay(0, street, 0, 1), 4);
        }
    }

    // ---- judgements

    private static void judgementOfACarThatStands(Check check) {
        KerbHours k = new KerbHours();
        k.times(127, 1, 2);
        Moves.letting(k, Moves.NOBODY, 2, 0, 59);
        k.car(3, Moves.VISITOR);
        k.car(3, Moves.VISITOR);
        k.pass(1);
        check.is("it does not stand", k.judge(0), Moves.NONE);
        k.park(0, 2, 0);
        check.is("it stands", k.judge(0), KerbHours.FORBIDDEN);
        check.is("another one does not", k.judge(1), Moves.NONE);
        check.is("its fine at this quarter", k.look(2), 1);
        k.pass(1);
        check.is("at another quarter", k.judge(0), KerbHours.FINE);
        check.is("its fine, at another quarter", k.appeal(0), false);
        k.leave(0);
        check.is("it stands no more", k.judge(0), Moves.NONE);
    }

    private static void blockedAtOneMetre(Check check) {
        KerbHours k = new KerbHours();
        Moves.parked(k, 5, Moves.VISITOR, 1, 20);
        for (int metre = 0; metre < 60; metre++) {
            k.block(1, metre, true);
            boolean isOn = metre >= 20 && metre <= 24;
            check.is("metre " + metre, k.judge(0), isOn ? KerbHours.BLOCKED : KerbHours.FINE);
            k.block(1, metre, false);
        }
        k.block(0, 22, true);
        check.is("of another street", k.judge(0), KerbHours.FINE);
        Moves.parked(k, 12, Moves.VISITOR, 2, 48);
        k.block(2, 59, true);
        check.is("the last metre of the street", k.judge(1), KerbHours.BLOCKED);
    }

    private static void blockedGoesAheadOfAll(Check check) {
        KerbHours k = withOne();
        k.sign(0, 0, 59, Moves.NOBODY, 1, true, false);
        k.block(0, 2, true);
        k.pass(5);
        check.is("blocked, forbidden, overstayed and unpaid", k.judge(0), KerbHours.BLOCKED);
        k.block(0, 2, false);
        check.is("no longer blocked", k.judge(0), KerbHours.FORBIDDEN);
    }

    private static void forbiddenAtOneMetre(Check check) {
        for (int metre = 17; metre < 28; metre++) {
            KerbHours k = new KerbHours();
            Moves.parked(k, 5, Moves.VISITOR, 1, 20);
            Moves.letting(k, Moves.NOBODY, 1, metre, metre);
            boolean isOn = metre >= 20 && metre <= 24;
            check.is("metre " + metre, k.judge(0), isOn ? KerbHours.FORBIDDEN : KerbHours.FINE);
        }
    }

    private static void forbiddenGoesAhead(Check check) {
        KerbHours k = withOne();
        k.sign(0, 0, 1, Moves.ALL, 1, true, false);
        Moves.letting(k, Moves.NOBODY, 0, 2, 2);
        k.pass(5);
        check.is("forbidden, overstayed and unpaid", k.judge(0), KerbHours.FORBIDDEN);
        k.takeDown(1);
        check.is("no longer forbidden", k.judge(0), KerbHours.OVERSTAYED);
    }

    private static void forbiddenByTheSignThatCounts(Check check) {
        KerbHours k = withForbidden();
        check.is("by the one sign", k.judge(0), KerbHours.FORBIDDEN);
        Moves.plain(k, 0, 0, 1);
        check.is("one metre is left to it", k.judge(0), KerbHours.FORBIDDEN);
        Moves.letting(k, 1 << Moves.VISITOR, 0, 0, 2);
        check.is("another one counts", k.judge(0), KerbHours.FINE);
        Moves.letting(k, Moves.ALL - (1 << Moves.VISITOR), 0, 1, 1);
        check.is("all but its user", k.judge(0), KerbHours.FORBIDDEN);
    }

    private static void forbiddenAsItCountsThen(Check check) {
        KerbHours k = new KerbHours();
        Moves.parked(k, 3, Moves.RESIDENT, 0, 0);
        Moves.parked(k, 3, Moves.RESIDENT, 1, 0);
        Moves.letting(k, 1 << Moves.RESIDENT, 0, 0, 59);
        Moves.letting(k, 1 << Moves.VISITOR, 1, 0, 59);
        check.is("without a permit, for residents", k.judge(0), KerbHours.FORBIDDEN);
        check.is("without a permit, for visitors", k.judge(1), KerbHours.FINE);
        k.permit(0, 0, 0, 0, 0);
        k.permit(1, 1, 0, 0, 0);
        check.is("with a permit, for residents", k.judge(0), KerbHours.FINE);
        check.is("with a permit, for visitors", k.judge(1), KerbHours.FORBIDDEN);
        k.pass(96);
        check.is("the day behind, for residents", k.judge(0), KerbHours.FORBIDDEN);
        check.is("the day behind, for visitors", k.judge(1), KerbHours.FINE);
    }

    private static void overstayedByMoreThanTheStayAndOne(Check check) {
        for (int stay : new int[] {1, 2, 50, 95}) {
            KerbHours k = new KerbHours();
            Moves.withStay(k, stay, 0, 0, 59);
            k.pass(7);
            Moves.parked(k, 3, Moves.VISITOR, 0, 0);
            k.pass(stay);
            check.is("the stay " + stay, k.judge(0), KerbHours.FINE);
            k.pass(1);
            check.is("the stay and 1, " + stay, k.judge(0), KerbHours.FINE);
            k.pass(1);
            check.is("the stay and 2, " + stay, k.judge(0), KerbHours.OVERSTAYED);
        }
    }

    private static void overstayedAtTheFirstMetre(Check check) {
        KerbHours k = withOne();
        Moves.parked(k, 3, Moves.VISITOR, 0, 10);
        Moves.withStay(k, 1, 0, 0, 0);
        Moves.withStay(k, 1, 0, 11, 12);
        k.pass(10);
        check.is("at its first metre", k.judge(0), KerbHours.OVERSTAYED);
        check.is("at its other metres", k.judge(1), KerbHours.FINE);
        Moves.withStay(k, 9, 0, 0, 0);
        check.is("the sign told last counts", k.judge(0), KerbHours.FINE);
        Moves.plain(k, 0, 10, 10);
        check.is("at its other metres, any stay at its first one", k.judge(1), KerbHours.FINE);
    }

    private static void overstayedGoesAhead(Check check) {
        KerbHours k = withOne();
        k.sign(0, 0, 59, Moves.ALL, 1, true, false);
        k.pass(2);
        check.is("unpaid", k.judge(0), KerbHours.UNPAID);
        k.pass(1);
        check.is("overstayed and unpaid", k.judge(0), KerbHours.OVERSTAYED);
        k.pay(0, 0, 0, 96);
        check.is("overstayed and paid", k.judge(0), KerbHours.OVERSTAYED);
    }

    private static void overstayedIfThereIsAStay(Check check) {
        KerbHours k = withOne();
        Moves.withStay(k, 0, 0, 0, 59);
        k.pass(2);
        check.is("2 quarters by any", k.judge(0), KerbHours.FINE);
        Moves.passDays(k, 3);
        check.is("3 days by any", k.judge(0), KerbHours.FINE);
        Moves.withStay(k, 1, 0, 0, 59);
        check.is("3 days by 1", k.judge(0), KerbHours.OVERSTAYED);
    }

    private static void unpaidAtTheFirstMetre(Check check) {
        KerbHours k = withOne();
        Moves.parked(k, 3, Moves.VISITOR, 0, 10);
        Moves.withFee(k, 0, 0, 0);
        Moves.withFee(k, 0, 11, 12);
        k.pass(2);
        check.is("at its first metre", k.judge(0), KerbHours.UNPAID);
        check.is("at its other metres", k.judge(1), KerbHours.FINE);
        Moves.plain(k, 0, 0, 0);
        check.is("the sign told last has none", k.judge(0), KerbHours.FINE);
        Moves.plain(k, 0, 10, 10);
        check.is("at its other metres, and none at its first one", k.judge(1), KerbHours.FINE);
    }

    private static void unpaidBehindOneQuarter(Check check) {
        KerbHours k = new KerbHours();
        Moves.withFee(k, 0, 0, 59);
        k.pass(5);
        Moves.parked(k, 3, Moves.VISITOR, 0, 0);
        check.is("at once", k.judge(0), KerbHours.FINE);
        k.pass(1);
        check.is("1 quarter", k.judge(0), KerbHours.FINE);
        k.pass(1);
        check.is("2 quarters", k.judge(0), KerbHours.UNPAID);
    }

    private static void unpaidIfNoneCovers(Check check) {
        KerbHours k = withFee();
        k.car(3, Moves.VISITOR);
        k.pass(10);
        k.pay(0, 0, 5, 5);
        check.is("one up to the quarter ahead", k.judge(0), KerbHours.UNPAID);
        k.pay(1, 0, 10, 1);
        k.pay(0, 1, 10, 1);
        check.is("one of another car, and one for another street", k.judge(0), KerbHours.UNPAID);
        k.pay(0, 0, 10, 1);
        k.pay(0, 0, 0, 1);
        check.is("one of many covers it", k.judge(0), KerbHours.FINE);
        k.pass(1);
        check.is("none covers the next", k.judge(0), KerbHours.UNPAID);
    }

    private static void otherwiseFine(Check check) {
        KerbHours k = withOne();
        k.sign(0, 0, 59, 1 << Moves.VISITOR, 5, true, false);
        k.block(0, 3, true);
        k.pass(6);
        k.pay(0, 0, 6, 1);
        check.is("let stand, the stay and 1, and paid", k.judge(0), KerbHours.FINE);
        check.is("no fine", k.look(0), 0);
    }

    // ---- looks and fines

    private static void lookAtAllThatStandThere(Check check) {
        KerbHours k = new KerbHours();
        for (int street = 0; street < 4; street++) {
            Moves.letting(k, Moves.NOBODY, street, 0, 59);
        }
        for (int i = 0; i < 6; i++) {
            Moves.parked(k, 3, Moves.VISITOR, i % 2, i * 10);
        }
        k.car(3, Moves.VISITOR);
        k.leave(2);
        check.is("look(0)", k.look(0), 2);
        int[] cars = {0, 4};
        for (int i = 0; i < 2; i++) {
            check.is("car of fine " + i, k.fine(i, 0), cars[i]);
        }
        check.is("look(1)", k.look(1), 3);
        check.is("look(2)", k.look(2), 0);
        for (int i = 2; i < 5; i++) {
            check.is("car of fine " + i, k.fine(i, 0), 2 * i - 3);
        }
    }

    private static void lookByTheirNumbers(Check check) {
        KerbHours k = new KerbHours();
        for (int i = 0; i < 5; i++) {
            k.car(3, Moves.VISITOR);
        }
        Moves.letting(k, Moves.NOBODY, 0, 0, 59);
        int[] order = {3, 0, 4, 2, 1};
        for (int i = 0; i < 5; i++) {
            k.park(order[i], 0, 40 - i * 10);
        }
        check.is("look", k.look(0), 5);
        for (int i = 0; i < 5; i++) {
            check.is("car of fine " + i, k.fine(i, 0), i);
        }
    }

    private static void notFineGetsAFine(Check check) {
        KerbHours k = withOneOfEachJudgement();
        check.is("look", k.look(0), 4);
        for (int i = 0; i < 4; i++) {
            check.is("car of fine " + i, k.fine(i, 0), i);
            check.is("judgement of fine " + i, k.fine(i, 3), KerbHours.BLOCKED + i);
        }
        check.refusesIndex("none for the fifth car", () -> k.fine(4, 0));
        check.is("debt of the fifth car", k.debt(4), 0);
    }

    /** Cars 0 to 3 are judged BLOCKED to UNPAID, car 4 FINE. */
    static KerbHours withOneOfEachJudgement() {
        KerbHours k = new KerbHours();
        for (int i = 0; i < 5; i++) {
            Moves.parked(k, 3, Moves.VISITOR, 0, i * 10);
        }
        k.block(0, 0, true);
        Moves.letting(k, Moves.NOBODY, 0, 10, 12);
        Moves.withStay(k, 1, 0, 20, 22);
        Moves.withFee(k, 0, 30, 32);
        k.pass(3);
        return k;
    }

    private static void finesAreNumbered(Check check) {
        KerbHours k = withForbidden();
        check.refusesIndex("no fine ahead of a look", () -> k.fine(0, 0));
        k.look(0);
        check.is("the first", k.fine(0, 2), 0);
        k.pass(96);
        check.refusesIndex("no second one yet", () -> k.fine(1, 0));
        k.look(0);
        check.is("the second", k.fine(1, 2), 96);
        check.is("the first, still", k.fine(0, 2), 0);
    }

    /** Thirteen cars on a street on which nobody may stand, fined on four days. */
    static void withFiftyTwoFines(KerbHours k) {
        for (int i = 0; i < 13; i++) {
            Moves.parked(k, 3, Moves.VISITOR, 0, i * 4);
        }
        Moves.letting(k, Moves.NOBODY, 0, 0, 59);
        for (int day = 0; day < 4; day++) {
            k.look(0);
            k.pass(96);
        }
    }

    private static void finesAreSixty(Check check) {
        KerbHours k = new KerbHours();
        withFiftyTwoFines(k);
        check.refusesIndex("no fine 52 yet", () -> k.fine(52, 0));
        check.is("eight of thirteen are given", k.look(0), 8);
        check.is("the last one's car", k.fine(59, 0), 7);
        check.refusesIndex("no fine 60", () -> k.fine(60, 0));
        check.is("fines of the street", k.streetIs(0, 3), 60);
        check.is("debt of car 7", k.debt(7), 300);
        check.is("debt of car 8", k.debt(8), 240);
        k.payFine(0);
        check.is("none more for a paid one", k.look(0), 0);
        Twins twins = new Twins(all -> {
            withFiftyTwoFines(all);
            all.look(0);
        });
        twins.isUnchangedBy(check, "look with sixty fines", all -> all.look(0));
    }

    private static void oneFineOnADay(Check check) {
        KerbHours k = withForbidden();
        check.is("at the day's first quarter", k.look(0), 1);
        check.is("at the same quarter", k.look(0), 0);
        k.block(0, 0, true);
        k.pass(95);
        check.is("at the day's last quarter, blocked by now", k.look(0), 0);
        k.pass(1);
        check.is("at the next day's first quarter", k.look(0), 1);
        check.is("its judgement", k.fine(1, 3), KerbHours.BLOCKED);
        k.pass(95);
        check.is("at the next day's last quarter", k.look(0), 0);
        k.pass(96);
        check.is("at the third day's last quarter", k.look(0), 1);
        k.pass(1);
        check.is("at the fourth day's first quarter", k.look(0), 1);
        check.is("fines of the street", k.streetIs(0, 3), 4);
    }

    private static void sinceItParkedThere(Check check) {
        KerbHours k = withForbidden();
        Moves.letting(k, Moves.NOBODY, 1, 0, 59);
        check.is("first", k.look(0), 1);
        k.pass(1);
        k.leave(0);
        k.pass(1);
        k.park(0, 0, 0);
        check.is("parked anew on the same day", k.look(0), 1);
        check.is("and again", k.look(0), 0);
        k.leave(0);
        k.park(0, 0, 0);
        check.is("parked anew in the same quarter", k.look(0), 1);
        check.is("and again then", k.look(0), 0);
        k.leave(0);
        k.park(0, 1, 0);
        check.is("on another street", k.look(1), 1);
        check.is("and again there", k.look(1), 0);
        k.leave(0);
        k.pass(1);
        k.park(0, 1, 0);
        check.is("parked anew there", k.look(1), 1);
        k.pass(93);
        check.is("on the next day, parked on the day ahead", k.look(1), 1);
        check.is("and again on the next day", k.look(1), 0);
    }

    private static void takenBackOrNot(Check check) {
        KerbHours k = withFee();
        Moves.parked(k, 3, Moves.VISITOR, 0, 10);
        Moves.parked(k, 3, Moves.VISITOR, 0, 20);
        k.pass(2);
        check.is("three", k.look(0), 3);
        k.pay(0, 0, 2, 1);
        check.is("taken back", k.appeal(0), true);
        check.is("paid", k.payFine(1), 40);
        check.is("appealed in vain", k.appeal(2), false);
        k.pass(1);
        check.is("judge", k.judge(0), KerbHours.UNPAID);
        check.is("none on the same day", k.look(0), 0);
        k.pass(93);
        check.is("all on the next day", k.look(0), 3);
    }

    private static void amounts(Check check) {
        KerbHours k = withOneOfEachJudgement();
        k.look(0);
        int[] amounts = {100, 60, 30, 40};
        for (int i = 0; i < 4; i++) {
            check.is("debt of car " + i, k.debt(i), amounts[i]);
            check.is("payFine(" + i + ")", k.payFine(i), amounts[i]);
        }
    }

    // ---- appeals

    private static void appealOnce(Check check) {
        KerbHours k = withFee();
        k.pass(2);
        k.look(0);
        check.is("in vain", k.appeal(0), false);
        k.pay(0, 0, 2, 1);
        check.refusesState("again, though it would be taken back now", () -> k.appeal(0));
        check.is("it is not taken back", k.fine(0, 4), 0);
        check.is("debt", k.debt(0), 40);
        k.pass(96);
        k.look(0);
        k.pay(0, 0, 98, 1);
        check.is("taken back", k.appeal(1), true);
        check.refusesState("again, though taken back", () -> k.appeal(1));
        check.is("it stays taken back", k.fine(1, 4), 1);
    }

    private static void appealForItsQuarter(Check check) {
        KerbHours k = new KerbHours();
        Moves.parked(k, 3, Moves.RESIDENT, 0, 0);
        k.sign(0, 0, 59, 1 << Moves.RESIDENT, 4, true, false);
        k.times(127, 5, 6);
        Moves.letting(k, Moves.NOBODY, 0, 0, 2);
        k.pass(1);
        check.is("a visitor at 1", k.look(0), 1);
        k.pass(96);
        check.is("a visitor at 97", k.look(0), 1);
        k.pass(4);
        check.is("judge at 101", k.judge(0), KerbHours.FORBIDDEN);
        k.permit(0, 0, 0, 0, 1);
        check.is("at 1 it had stood 1 quarter", k.appeal(0), true);
        check.is("at 97 it had stood 97", k.appeal(1), false);
        KerbHours other = withOne();
        other.times(127, 0, 5);
        Moves.letting(other, Moves.NOBODY, 0, 0, 59);
        other.pass(4);
        other.look(0);
        other.pass(1);
        check.is("judge now", other.judge(0), KerbHours.FINE);
        check.is("the sign held at its quarter", other.appeal(0), false);
    }

    private static void appealForItsPlace(Check check) {
        KerbHours k = withFee();
        Moves.letting(k, Moves.NOBODY, 1, 0, 59);
        k.pass(2);
        k.look(0);
        k.leave(0);
        k.pay(0, 0, 2, 1);
        k.park(0, 1, 30);
        check.is("paid for the place of then", k.appeal(0), true);
        check.is("a fine at the place of now", k.look(1), 1);
        k.leave(0);
        k.park(0, 0, 30);
        k.pay(0, 0, 2, 96);
        check.is("not let stand at the place of then", k.appeal(1), false);
        KerbHours gone = withForbidden();
        gone.look(0);
        gone.leave(0);
        gone.takeDown(0);
        check.is("gone, and the sign was taken down in its quarter", gone.appeal(0), true);
    }

    private static void appealByAllSigns(Check check) {
        KerbHours k = withForbidden();
        k.pass(3);
        k.look(0);
        k.takeDown(0);
        check.is("taken down in its quarter", k.appeal(0), true);
        k.pass(96);
        Moves.letting(k, Moves.NOBODY, 0, 0, 59);
        k.look(0);
        k.pass(1);
        k.takeDown(1);
        Moves.plain(k, 0, 0, 2);
        check.is("taken down later, and another one told later", k.appeal(1), false);
        k.pass(95);
        Moves.letting(k, Moves.NOBODY, 0, 0, 2);
        k.look(0);
        Moves.plain(k, 0, 0, 2);
        check.is("another one told in its quarter", k.appeal(2), true);
        Moves.letting(k, Moves.NOBODY, 0, 0, 0);
        k.pass(96);
        k.look(0);
        Moves.temporary(k, 0, 0, 0);
        check.is("a temporary one told in its quarter", k.appeal(3), false);
    }

    private static void appealByPermits(Check check) {
        KerbHours k = new KerbHours();
        Moves.parked(k, 3, Moves.RESIDENT, 2, 0);
        Moves.parked(k, 3, Moves.RESIDENT, 2, 10);
        Moves.letting(k, 1 << Moves.RESIDENT, 2, 0, 59);
        check.is("day 0", k.look(2), 2);
        k.pass(96);
        check.is("day 1", k.look(2), 2);
        k.pass(96);
        k.permit(0, 2, 0, 1, 1);
        check.is("none of day 0", k.appeal(0), false);
        check.is("one of day 1", k.appeal(2), true);
        k.hand(0, 1);
        check.is("one handed", k.appeal(3), true);
        check.is("who had it stays free", k.fine(2, 4), 1);
        k.permit(1, 1, 1, 0, 0);
        check.is("one of another street", k.appeal(1), false);
    }

    private static void appealByPayments(Check check) {
        KerbHours k = withFee();
        k.pass(90);
        k.look(0);
        k.pass(20);
        k.look(0);
        k.pay(0, 0, 88, 3);
        check.is("told 20 quarters later", k.appeal(0), true);
        k.pay(0, 0, 20, 90);
        check.is("up to the quarter ahead", k.appeal(1), false);
    }

    private static void appealByBlockedMetres(Check check) {
        KerbHours k = withFee();
        Moves.parked(k, 3, Moves.VISITOR, 0, 10);
        k.block(0, 2, true);
        k.pass(5);
        check.is("look", k.look(0), 2);
        k.block(0, 2, false);
        k.block(0, 10, true);
        k.pay(0, 0, 5, 1);
        k.pay(1, 0, 5, 1);
        check.is("it was blocked, and is not now", k.appeal(0), false);
        check.is("it was not blocked, and is now", k.appeal(1), true);
        k.leave(0);
        k.pass(96);
        k.park(0, 0, 0);
        k.block(0, 0, true);
        k.block(0, 10, false);
        check.is("both again", k.look(0), 2);
        k.pass(1);
        check.is("still blocked", k.appeal(2), false);
    }

    private static void takenBackIfFineNow(Check check) {
        KerbHours k = withFee();
        k.pass(2);
        k.look(0);
        k.pay(0, 0, 2, 1);
        check.is("FINE now", k.appeal(0), true);
        check.is("taken back", k.fine(0, 4), 1);
        check.is("not paid", k.fine(0, 5), 0);
        check.is("debt", k.debt(0), 0);
        k.pass(96);
        k.look(0);
        check.is("not FINE", k.appeal(1), false);
        check.is("not taken back", k.fine(1, 4), 0);
        check.is("debt of the second", k.debt(0), 40);
    }

    private static void notTakenBackIfPaid(Check check) {
        KerbHours k = withFee();
        k.pass(2);
        k.look(0);
        k.pay(0, 0, 2, 1);
        k.payFine(0);
        check.refusesState("appeal, paid", () -> k.appeal(0));
        check.is("not taken back", k.fine(0, 4), 0);
        check.is("paid", k.fine(0, 5), 1);
    }

    /** The fine is judged another way by the appeal, but not FINE. */
    private static void staysAsItWasGiven(Check check) {
        KerbHours k = withOne();
        Moves.withStay(k, 1, 0, 0, 2);
        k.pass(5);
        k.look(0);
        Moves.withFee(k, 0, 0, 2);
        check.is("unpaid instead of overstayed", k.appeal(0), false);
        int[] due = {0, 0, 5, KerbHours.OVERSTAYED, 0, 0};
        for (int what = 0; what < 6; what++) {
            check.is("fine(0, " + what + ")", k.fine(0, what), due[what]);
        }
        check.is("debt", k.debt(0), 30);
        Moves.letting(k, Moves.NOBODY, 0, 0, 2);
        check.is("payFine", k.payFine(0), 30);
    }

    // ---- debts and towing

    private static void debt(Check check) {
        KerbHours k = withOneOfEachJudgement();
        check.is("without a fine", k.debt(0), 0);
        k.look(0);
        k.leave(0);
        k.leave(3);
        k.pass(1);
        k.park(0, 0, 30);
        k.pass(2);
        check.is("an unpaid one for car 0", k.look(0), 1);
        check.is("100 and 40", k.debt(0), 140);
        k.payFine(0);
        check.is("without the paid one", k.debt(0), 40);
        k.pay(0, 0, 6, 1);
        check.is("appeal", k.appeal(4), true);
        check.is("without the one taken back", k.debt(0), 0);
        check.is("of another car", k.debt(1), 60);
        k.appeal(1);
        check.is("with one appealed in vain", k.debt(1), 60);
        check.is("of one that has left", k.debt(3), 40);
        check.is("of one without a fine", k.debt(4), 0);
    }

    /** Car 0 owes 100, 60 and 30, then pays the last one and owes 40 more. */
    private static void canBeTowed(Check check) {
        KerbHours k = owing190();
        check.is("debt", k.debt(0), 190);
        check.refusesState("with 190", () -> k.tow(0));
        k.payFine(2);
        k.pass(96);
        k.takeDown(1);
        Moves.withFee(k, 0, 0, 0);
        k.look(0);
        check.is("debt then", k.debt(0), 200);
        k.leave(0);
        check.refusesState("with 200, but gone", () -> k.tow(0));
        k.park(0, 2, 0);
        check.is("with 200", k.tow(0), 200);
        KerbHours more = owing190();
        more.pass(96);
        more.look(0);
        check.is("with 220", more.tow(0), 220);
    }

    /** Fined BLOCKED, FORBIDDEN and OVERSTAYED on three days, by signs 0 and 1. */
    static KerbHours owing190() {
        KerbHours k = withOne();
        k.block(0, 0, true);
        k.look(0);
        k.pass(96);
        k.block(0, 0, false);
        Moves.letting(k, Moves.NOBODY, 0, 0, 0);
        k.look(0);
        k.pass(96);
        k.takeDown(0);
        Moves.withStay(k, 1, 0, 0, 0);
        k.look(0);
        return k;
    }

    private static void towedStandsNoMore(Check check) {
        KerbHours k = owing190();
        k.pass(96);
        k.look(0);
        k.tow(0);
        check.is("judge", k.judge(0), Moves.NONE);
        check.is("taken", k.streetIs(0, 1), 0);
        check.is("gap", k.gap(0, 12), 0);
        check.is("debt", k.debt(0), 220);
        check.refusesState("leave", () -> k.leave(0));
        check.refusesState("tow again", () -> k.tow(0));
        k.pass(1);
        check.accepts("park anew", () -> k.park(0, 0, 0));
        check.is("parked anew, it has its stay anew", k.look(0), 0);
        k.pass(3);
        check.is("parked anew, it is fined anew on the same day", k.look(0), 1);
    }
}
