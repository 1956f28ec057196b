/** What the terms say of prices, and promises 24 and 25, line by line: streetIs, pass. */
public final class PricesTest {
    private static final int MIN = Integer.MIN_VALUE, MAX = Integer.MAX_VALUE;
    private static final int[] FULL = {12, 12, 12, 12, 8}, FORTY_EIGHT = {12, 12, 12, 12};

    static final Sentence[] SENTENCES = {
        new Sentence("What it is", "An object is used for at most 512 calls after it has been made;", PricesTest::calls),
        Sentence.term("As a day begins, each street has its price changed", PricesTest::asADayBegins),
        Sentence.term("each street has its price changed", PricesTest::eachStreet),
        Sentence.term("by how much was taken on the day ahead:", PricesTest::onTheDayAhead),
        Sentence.term("the metres that were taken as each quarter went by, added up;", PricesTest::asEachQuarterWentBy),
        Sentence.term("if that is more than 80 hundredths of all, the price is 1 more,", PricesTest::moreThan80Hundredths),
        Sentence.term("at most 20;", PricesTest::atMost20),
        Sentence.term("if it is less than 40 hundredths, 1 less,", PricesTest::lessThan40Hundredths),
        Sentence.term("at least 0.", PricesTest::atLeast0),
        Sentence.promise(24, "Tells of a street.", PricesTest::streetIsTells),
        Sentence.promise(24, "`what`: 0 its price,", PricesTest::price),
        Sentence.promise(24, "1 how many metres are taken now,", PricesTest::takenNow),
        Sentence.promise(24, "2 what payments for it cost,", PricesTest::paymentsCost),
        Sentence.promise(24, "3 how many fines were given there,", PricesTest::finesGiven),
        Sentence.promise(24, "4 what was taken on the day so far, added up", PricesTest::takenOnTheDay),
        Sentence.promise(24, "Throws `IndexOutOfBoundsException` if there is no such street",
                PricesTest::streetIsNoStreet),
        Sentence.promise(24, "Throws `IllegalArgumentException` if what is out of range", PricesTest::streetIsOutOfRange),
        Sentence.promise(25, "Lets quarters pass.", PricesTest::passPasses),
        Sentence.promise(25, "`quarters`: 1 to 96", PricesTest::passQuarters),
        Sentence.promise(25, "Returns the quarter then.", PricesTest::passReturns),
        Sentence.promise(25, "Throws `IllegalArgumentException` if quarters is out of range", PricesTest::passOutOfRange),
        Sentence.promise(25, "Throws `IllegalStateException` if it would be above 49999", PricesTest::passBeyondTheEnd),
        Sentence.term("rules, gaps, prices, fines, reasons, debts and money can be asked for.",
                PricesTest::askingForAStreetChangesNothing),
    };

    private static final Twins BUSY = new Twins(Twins::busy);

    public static void main(String[] args) {
        Sentence.runAll("PricesTest", SENTENCES);
    }

    private static void calls(Check check) {
        KerbHours k = new KerbHours();
        for (int call = 1; call <= 512; call++) {
            check.is("call " + call, k.pass(96), call * 96);
        }
        KerbHours other = new KerbHours();
        for (int call = 1; call <= 510; call++) {
            other.block(0, 0, true);
        }
        check.is("call 511", other.car(3, Moves.VISITOR), 0);
        check.is("call 512", other.block(0, 0, true), true);
    }

    // ---- how prices change

    /** New cars of these lengths on the street, from its first metre on, one metre between them. */
    private static void fill(KerbHours k, int street, int[] lengths) {
        int metre = 0;
        for (int length : lengths) {
            Moves.parked(k, length, Moves.VISITOR, street, metre);
            metre += length + 1;
        }
    }

    private static void asADayBegins(Check check) {
        KerbHours k = new KerbHours();
        fill(k, 1, FULL);
        check.is("at first, full", k.streetIs(1, 0), 4);
        check.is("at first, empty", k.streetIs(0, 0), 4);
        k.pass(95);
        check.is("on the last quarter of the day, full", k.streetIs(1, 0), 4);
        check.is("on the last quarter of the day, empty", k.streetIs(0, 0), 4);
        k.pass(1);
        check.is("on the first quarter of the next, full", k.streetIs(1, 0), 5);
        check.is("on the first quarter of the next, empty", k.streetIs(0, 0), 3);
        k.pass(95);
        check.is("on its last quarter, full", k.streetIs(1, 0), 5);
        check.is("on its last quarter, empty", k.streetIs(0, 0), 3);
        k.pass(1);
        check.is("on the third day, full", k.streetIs(1, 0), 6);
        check.is("on the third day, empty", k.streetIs(0, 0), 2);
        k.pass(50);
        k.pass(96);
        check.is("a day begins inside a pass, full", k.streetIs(1, 0), 7);
        check.is("a day begins inside a pass, empty", k.streetIs(0, 0), 1);
    }

    private static void eachStreet(Check check) {
        KerbHours k = new KerbHours();
        fill(k, 0, FULL);
        fill(k, 2, new int[] {12, 12, 12});
        fill(k, 3, FULL);
        k.pass(96);
        int[] due = {5, 3, 4, 5};
        for (int street = 0; street < 4; street++) {
            check.is("price of " + street, k.streetIs(street, 0), due[street]);
        }
    }

    private static void onTheDayAhead(Check check) {
        KerbHours k = new KerbHours();
        fill(k, 0, FULL);
        k.pass(96);
        check.is("a full day", k.streetIs(0, 0), 5);
        for (int car = 0; car < 5; car++) {
            k.leave(car);
        }
        k.pass(96);
        check.is("an empty day behind a full one", k.streetIs(0, 0), 4);
        k.pass(95);
        for (int car = 0; car < 5; car++) {
            k.park(car, 0, car * 13);
        }
        k.pass(1);
        check.is("full on the last quarter of an empty day", k.streetIs(0, 0), 3);
        k.pass(96);
        check.is("a full day behind it", k.streetIs(0, 0), 4);
    }

    private static void asEachQuarterWentBy(Check check) {
        KerbHours k = new KerbHours();
        Moves.parked(k, 12, Moves.VISITOR, 0, 0);
        k.leave(0);
        k.pass(1);
        check.is("parked and gone in one quarter", k.streetIs(0, 4), 0);
        k.park(0, 0, 0);
        k.pass(1);
        check.is("there as the quarter went by", k.streetIs(0, 4), 12);
        k.leave(0);
        k.pass(1);
        check.is("gone ahead of the next", k.streetIs(0, 4), 12);
        Moves.parked(k, 5, Moves.VISITOR, 0, 20);
        k.park(0, 0, 0);
        k.pass(10);
        check.is("both for ten", k.streetIs(0, 4), 12 + 170);
        k.block(0, 50, true);
        k.pass(1);
        check.is("a blocked metre is not taken", k.streetIs(0, 4), 12 + 170 + 17);
    }

    /** The price of street 0 behind a day with the first cars for 95 quarters and the second ones for the last. */
    private static int priceBehind(int[] first, int[] last) {
        KerbHours k = new KerbHours();
        fill(k, 0, first);
        k.pass(95);
        for (int car = 0; car < first.length; car++) {
            k.leave(car);
        }
        fill(k, 0, last);
        k.pass(1);
        return k.streetIs(0, 0);
    }

    /** All are 60 metres by 96 quarters, 5760; 80 hundredths of them are 4608, 48 metres all day. */
    private static void moreThan80Hundredths(Check check) {
        check.is("4607", priceBehind(FORTY_EIGHT, new int[] {12, 12, 12, 11}), 4);
        check.is("4608", priceBehind(FORTY_EIGHT, FORTY_EIGHT), 4);
        check.is("4609", priceBehind(FORTY_EIGHT, new int[] {12, 12, 12, 10, 3}), 5);
        check.is("as many as there can be", priceBehind(FULL, FULL), 5);
    }

    private static void atMost20(Check check) {
        KerbHours k = new KerbHours();
        fill(k, 1, FULL);
        for (int day = 1; day <= 19; day++) {
            k.pass(96);
            check.is("price of day " + day, k.streetIs(1, 0), Math.min(20, 4 + day));
        }
        check.is("cost of 96", k.pay(0, 1, 19 * 96, 96), 1920);
        for (int car = 0; car < 5; car++) {
            k.leave(car);
        }
        k.pass(96);
        check.is("behind an empty day", k.streetIs(1, 0), 19);
        k.pass(96);
        check.is("behind another one", k.streetIs(1, 0), 18);
    }

    /** 40 hundredths are 2304, 24 metres all day. */
    private static void lessThan40Hundredths(Check check) {
        int[] most = {12, 12};
        check.is("2303", priceBehind(most, new int[] {12, 11}), 3);
        check.is("2304", priceBehind(most, most), 4);
        check.is("2305", priceBehind(most, new int[] {12, 10, 3}), 4);
        check.is("none", priceBehind(new int[0], new int[0]), 3);
    }

    private static void atLeast0(Check check) {
        KerbHours k = new KerbHours();
        for (int day = 1; day <= 7; day++) {
            k.pass(96);
            check.is("price of day " + day, k.streetIs(2, 0), Math.max(0, 4 - day));
        }
        fill(k, 2, FULL);
        check.is("cost of 96", k.pay(0, 2, 7 * 96, 96), 0);
        k.pass(96);
        check.is("behind a full day", k.streetIs(2, 0), 1);
        k.pass(96);
        check.is("behind another one", k.streetIs(2, 0), 2);
    }

    // ---- streetIs

    private static void streetIsTells(Check check) {
        KerbHours k = new KerbHours();
        Moves.parked(k, 5, Moves.VISITOR, 3, 0);
        k.block(3, 0, true);
        k.pass(96);
        k.look(3);
        k.pay(0, 3, 96, 2);
        k.pass(2);
        int[] due = {3, 5, 6, 1, 10};
        for (int what = 0; what < 5; what++) {
            check.is("streetIs(3, " + what + ")", k.streetIs(3, what), due[what]);
            check.is("streetIs(2, " + what + ")", k.streetIs(2, what), what == 0 ? 3 : 0);
        }
    }

    private static void price(Check check) {
        KerbHours k = new KerbHours();
        fill(k, 3, FULL);
        check.is("at first", k.streetIs(3, 0), 4);
        k.pass(96);
        check.is("a day later", k.streetIs(3, 0), 5);
        check.is("of another street", k.streetIs(0, 0), 3);
    }

    private static void takenNow(Check check) {
        KerbHours k = new KerbHours();
        check.is("at first", k.streetIs(0, 1), 0);
        fill(k, 0, FULL);
        check.is("full but for the gaps", k.streetIs(0, 1), 56);
        k.leave(4);
        check.is("one left", k.streetIs(0, 1), 48);
        k.block(0, 59, true);
        check.is("a blocked metre is not taken", k.streetIs(0, 1), 48);
        k.pass(96);
        check.is("a day later", k.streetIs(0, 1), 48);
        check.is("another street", k.streetIs(1, 1), 0);
    }

    private static void paymentsCost(Check check) {
        KerbHours k = new KerbHours();
        k.car(3, Moves.VISITOR);
        check.is("at first", k.streetIs(1, 2), 0);
        k.pay(0, 1, 0, 3);
        k.pay(0, 1, 0, 4);
        k.pay(0, 2, 0, 96);
        check.is("two payments", k.streetIs(1, 2), 28);
        check.is("another street", k.streetIs(2, 2), 384);
        k.pass(96);
        check.is("a day later", k.streetIs(1, 2), 28);
        k.pay(0, 1, 0, 3);
        check.is("one more by 3", k.streetIs(1, 2), 37);
        check.is("none", k.streetIs(0, 2), 0);
        k.park(0, 1, 0);
        k.block(1, 0, true);
        k.look(1);
        check.is("a fine that is paid", k.payFine(0), 100);
        check.is("it is no payment for the street", k.streetIs(1, 2), 37);
    }

    private static void finesGiven(Check check) {
        KerbHours k = FinesTest.withOneOfEachJudgement();
        Moves.parked(k, 3, Moves.VISITOR, 1, 0);
        k.block(1, 0, true);
        check.is("at first", k.streetIs(0, 3), 0);
        k.look(0);
        check.is("four", k.streetIs(0, 3), 4);
        check.is("none there yet", k.streetIs(1, 3), 0);
        k.look(1);
        check.is("one there", k.streetIs(1, 3), 1);
        k.payFine(0);
        k.pay(3, 0, 3, 1);
        check.is("appeal", k.appeal(3), true);
        check.is("with one paid and one taken back", k.streetIs(0, 3), 4);
        k.leave(1);
        k.pass(96);
        k.look(0);
        check.is("three more on the next day", k.streetIs(0, 3), 7);
    }

    private static void takenOnTheDay(Check check) {
        KerbHours k = new KerbHours();
        Moves.parked(k, 5, Moves.VISITOR, 0, 0);
        Moves.parked(k, 7, Moves.VISITOR, 3, 0);
        check.is("nothing went by", k.streetIs(0, 4), 0);
        k.pass(10);
        check.is("10 quarters by 5", k.streetIs(0, 4), 50);
        check.is("10 quarters by 7", k.streetIs(3, 4), 70);
        check.is("none there", k.streetIs(1, 4), 0);
        k.pass(85);
        check.is("on the day's last quarter", k.streetIs(0, 4), 475);
        k.pass(1);
        check.is("a day begins", k.streetIs(0, 4), 0);
        k.pass(1);
        check.is("its first quarter", k.streetIs(0, 4), 5);
        k.pass(96);
        check.is("the next day's first quarter", k.streetIs(0, 4), 5);
    }

    private static void streetIsNoStreet(Check check) {
        for (int street : new int[] {-1, 4, MIN, MAX}) {
            for (int what : new int[] {0, 4, -1, 5}) {
                BUSY.refusesIndex(check, "streetIs(" + street + ", " + what + ")", k -> k.streetIs(street, what));
            }
        }
        check.is("the first street", new KerbHours().streetIs(0, 0), 4);
        check.is("the last street", new KerbHours().streetIs(3, 0), 4);
    }

    private static void streetIsOutOfRange(Check check) {
        for (int what : new int[] {-1, 5, MIN, MAX}) {
            BUSY.refusesArgument(check, "streetIs(0, " + what + ")", k -> k.streetIs(0, what));
            BUSY.refusesArgument(check, "streetIs(3, " + what + ")", k -> k.streetIs(3, what));
        }
        check.is("the first what", new KerbHours().streetIs(0, 0), 4);
        check.is("the last what", new KerbHours().streetIs(0, 4), 0);
    }

    private static void askingForAStreetChangesNothing(Check check) {
        for (int what = 0; what < 5; what++) {
            int of = what;
            BUSY.isUnchangedBy(check, "streetIs(0, " + what + ")", k -> k.streetIs(0, of));
        }
    }

    // ---- pass

    private static void passPasses(Check check) {
        KerbHours k = new KerbHours();
        Moves.parked(k, 5, Moves.VISITOR, 0, 0);
        k.pass(7);
        check.is("taken by 7 quarters", k.streetIs(0, 4), 35);
        check.is("stood for 7", k.leave(0), 7);
        Moves.plain(k, 0, 0, 59);
        Moves.rule(check, k, 0, 0, 6, Moves.NONE);
        Moves.rule(check, k, 0, 0, 7, 0);
    }

    private static void passQuarters(Check check) {
        BUSY.refusesArgument(check, "pass(0)", k -> k.pass(0));
        BUSY.refusesArgument(check, "pass(97)", k -> k.pass(97));
        KerbHours k = new KerbHours();
        check.is("pass(1)", k.pass(1), 1);
        check.is("pass(96)", k.pass(96), 97);
    }

    private static void passReturns(Check check) {
        KerbHours k = new KerbHours();
        check.is("from 0", k.pass(95), 95);
        check.is("over a day's begin", k.pass(2), 97);
        check.is("over the next one's", k.pass(96), 193);
        check.refusesArgument("refused", () -> k.pass(97));
        check.is("behind a refused one", k.pass(1), 194);
    }

    private static void passOutOfRange(Check check) {
        for (int quarters : new int[] {-1, -96, 192, MIN, MAX}) {
            BUSY.refusesArgument(check, "pass(" + quarters + ")", k -> k.pass(quarters));
        }
    }

    /** No run of 512 calls comes this far: the answers here are free, but the class keeps to the promise. */
    private static void passBeyondTheEnd(Check check) {
        KerbHours k = new KerbHours();
        int now = 0;
        while (now <= 49999 - 96) {
            now = k.pass(96);
        }
        int left = 49999 - now;
        Moves.parked(k, 3, Moves.VISITOR, 0, 0);
        check.refusesState("one beyond the end", () -> k.pass(left + 1));
        check.is("nothing went by", k.streetIs(0, 4), 0);
        check.refusesState("as many as can be", () -> k.pass(96));
        check.refusesArgument("out of range goes ahead", () -> k.pass(97));
        check.is("nothing went by then", k.streetIs(0, 4), 0);
        check.is("the end", k.pass(left), 49999);
        check.is("taken up to the end", k.streetIs(0, 4), 3 * left);
        check.refusesState("pass(1) at the end", () -> k.pass(1));
        check.refusesArgument("pass(0) at the end", () -> k.pass(0));
        Moves.plain(k, 0, 0, 59);
        Moves.rule(check, k, 0, 0, 49999, 0);
        Moves.rule(check, k, 0, 0, 49998, Moves.NONE);
    }
}
