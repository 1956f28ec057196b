/** Promises 24 and 25: prices and time. */
public final class PricesTest {
    public static void main(String[] args) {
        Check check = new Check("PricesTest");
        streetIsRefused(check);
        takenOnADay(check);
        priceFalls(check);
        priceRises(check);
        sharesAtTheEdge(check);
        dayBeginsInsideAPass(check);
        passRefused(check);
        theEndOfTime(check);
        check.end();
    }

    private static void park(KerbHours k, int car, int length, int street, int metre) {
        if (k.car(length, KerbHours.VISITOR) != car) {
            throw new IllegalStateException("the cars are not numbered as the test wants");
        }
        k.park(car, street, metre);
    }

    private static void streetIsRefused(Check check) {
        KerbHours k = new KerbHours();
        for (int what : new int[] {-1, 5, Integer.MIN_VALUE, Integer.MAX_VALUE}) {
            check.refusesArgument("streetIs(0, " + what + ")", () -> k.streetIs(0, what));
            check.refusesIndex("streetIs(4, " + what + ")", () -> k.streetIs(4, what));
        }
        check.refusesIndex("streetIs(-1, 0)", () -> k.streetIs(-1, 0));
        check.refusesIndex("streetIs(4, 0)", () -> k.streetIs(4, 0));
        check.is("streetIs(3, 0)", k.streetIs(3, 0), 4);
    }

    private static void takenOnADay(Check check) {
        KerbHours k = new KerbHours();
        park(k, 0, 5, 0, 0);
        park(k, 1, 7, 3, 0);
        check.is("nothing went by", k.streetIs(0, 4), 0);
        check.is("pass(10)", k.pass(10), 10);
        check.is("10 quarters by 5", k.streetIs(0, 4), 50);
        check.is("10 quarters by 7", k.streetIs(3, 4), 70);
        check.is("none there", k.streetIs(1, 4), 0);
        park(k, 2, 3, 0, 10);
        k.block(0, 50, true);
        check.is("taken now", k.streetIs(0, 1), 8);
        k.pass(1);
        check.is("and 8 more", k.streetIs(0, 4), 58);
        k.leave(0);
        k.pass(2);
        check.is("and 3 twice", k.streetIs(0, 4), 64);
        k.pass(82);
        check.is("at the last quarter", k.streetIs(0, 4), 64 + 82 * 3);
        check.is("pass(1)", k.pass(1), 96);
        check.is("a day begins", k.streetIs(0, 4), 0);
        k.pass(1);
        check.is("its first quarter", k.streetIs(0, 4), 3);
    }

    private static void priceFalls(Check check) {
        KerbHours k = new KerbHours();
        k.pass(95);
        check.is("the first day", k.streetIs(2, 0), 4);
        for (int day = 1; day <= 6; day++) {
            k.pass(day == 1 ? 1 : 96);
            check.is("price of day " + day, k.streetIs(2, 0), Math.max(0, 4 - day));
        }
        k.car(3, 0);
        check.is("free of charge", k.pay(0, 2, 500, 96), 0);
    }

    private static void priceRises(Check check) {
        KerbHours k = new KerbHours();
        for (int i = 0; i < 4; i++) {
            park(k, i, 12, 1, i * 13);
        }
        park(k, 4, 8, 1, 52);
        check.is("all but the gaps", k.streetIs(1, 1), 56);
        for (int day = 1; day <= 18; day++) {
            k.pass(96);
            check.is("price of day " + day, k.streetIs(1, 0), Math.min(20, 4 + day));
            check.is("price of another street", k.streetIs(0, 0), Math.max(0, 4 - day));
        }
        check.is("the dearest", k.pay(4, 1, 18 * 96, 96), 1920);
    }

    /** 80 hundredths of all are 4608, 40 are 2304: at them the price stays. */
    private static void sharesAtTheEdge(Check check) {
        KerbHours k = new KerbHours();
        for (int i = 0; i < 4; i++) {
            park(k, i, 12, 0, i * 13);
        }
        park(k, 4, 12, 1, 0);
        park(k, 5, 12, 1, 13);
        park(k, 6, 3, 1, 26);
        k.pass(32);
        k.leave(6);
        k.leave(5);
        k.pass(8);
        k.park(5, 1, 13);
        k.pass(56);
        check.is("48 metres all day", k.streetIs(0, 0), 4);
        check.is("2304 in all", k.streetIs(1, 0), 4);
        k.park(6, 0, 52);
        k.pass(1);
        k.leave(6);
        k.leave(5);
        k.pass(1);
        k.park(5, 1, 13);
        k.pass(94);
        check.is("4611 in all", k.streetIs(0, 0), 5);
        check.is("2292 in all", k.streetIs(1, 0), 3);
    }

    private static void dayBeginsInsideAPass(Check check) {
        KerbHours k = new KerbHours();
        park(k, 0, 12, 0, 0);
        k.pass(90);
        check.is("pass(96) over a day's begin", k.pass(96), 186);
        check.is("price", k.streetIs(0, 0), 3);
        check.is("taken since the begin", k.streetIs(0, 4), 12 * 90);
        check.is("pass(6)", k.pass(6), 192);
        check.is("price of the next", k.streetIs(0, 0), 2);
    }

    private static void passRefused(Check check) {
        KerbHours k = new KerbHours();
        park(k, 0, 12, 0, 0);
        for (int quarters : new int[] {0, -1, 97, Integer.MIN_VALUE, Integer.MAX_VALUE}) {
            check.refusesArgument("pass(" + quarters + ")", () -> k.pass(quarters));
        }
        check.is("nothing went by", k.streetIs(0, 4), 0);
        check.is("pass(96)", k.pass(96), 96);
    }

    /** No run of 512 calls comes this far, so that the answers here are free; the class keeps to promise 25 all the same. */
    private static void theEndOfTime(Check check) {
        KerbHours k = new KerbHours();
        int now = 0;
        while (now <= 49999 - 96) {
            now = k.pass(96);
        }
        int left = 49999 - now;
        check.refusesState("beyond the end", () -> k.pass(left + 1));
        check.refusesArgument("97 beyond the end", () -> k.pass(97));
        check.is("the end", k.pass(left), 49999);
        check.refusesState("pass(1) at the end", () -> k.pass(1));
        check.is("a sign at the end", k.sign(0, 0, 59, 0, 0, false, false), 0);
        check.is("its rule", k.rule(0, 0, 49999), 0);
        check.is("no rule ahead", k.rule(0, 0, 49998), KerbHours.NONE);
    }
}
