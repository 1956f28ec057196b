/** Promises 16 to 23: payments, looks, fines. */
public final class FinesTest {
    private static final int ALL = 31, NOBODY = 0;
    private static final int V = KerbHours.VISITOR;

    public static void main(String[] args) {
        Check check = new Check("FinesTest");
        pay(check);
        payRefused(check);
        paymentsAreTwoHundred(check);
        judgedInOrder(check);
        judgedByUser(check);
        judgedByStay(check);
        judgedByFee(check);
        judgedByPayment(check);
        judgedOnItsMetresAlone(check);
        judgedByItsQuarter(check);
        look(check);
        oneFineOnADay(check);
        finesAreSixty(check);
        appealByPayment(check);
        appealByPermit(check);
        appealByBlockedMetres(check);
        appealBySigns(check);
        appealRefused(check);
        payFine(check);
        tellsOfAFine(check);
        debtAndTow(check);
        check.end();
    }

    /** A car of 3 metres, a visitor, that stands at metre 0 of street 0. */
    private static KerbHours withOne() {
        KerbHours k = new KerbHours();
        k.car(3, V);
        k.park(0, 0, 0);
        return k;
    }

    private static void pay(Check check) {
        KerbHours k = new KerbHours();
        k.car(3, V);
        check.is("pay(0, 0, 0, 1)", k.pay(0, 0, 0, 1), 4);
        check.is("pay(0, 0, 0, 96)", k.pay(0, 0, 0, 96), 384);
        check.is("pay(0, 3, 0, 2)", k.pay(0, 3, 0, 2), 8);
        check.is("cost of 0", k.streetIs(0, 2), 388);
        check.is("cost of 3", k.streetIs(3, 2), 8);
        check.is("cost of 1", k.streetIs(1, 2), 0);
        k.pass(96);
        check.is("by the price of now", k.pay(0, 0, 50, 10), 30);
        check.is("cost of 0, then", k.streetIs(0, 2), 418);
    }

    private static void payRefused(Check check) {
        KerbHours k = new KerbHours();
        k.car(3, V);
        check.refusesArgument("from 1 at 0", () -> k.pay(0, 0, 1, 1));
        check.refusesArgument("from -1 at 0", () -> k.pay(0, 0, -1, 1));
        k.pass(95);
        k.pass(5);
        int[][] index = {{-1, 0}, {1, 0}, {0, -1}, {0, 4}};
        for (int[] w : index) {
            String call = "pay(" + w[0] + ", " + w[1] + ")";
            check.refusesIndex(call, () -> k.pay(w[0], w[1], 100, 1));
            check.refusesIndex(call + " for 0", () -> k.pay(w[0], w[1], 101, 0));
        }
        for (int from : new int[] {3, 101, Integer.MIN_VALUE, Integer.MAX_VALUE}) {
            check.refusesArgument("from " + from + " at 100", () -> k.pay(0, 0, from, 1));
        }
        for (int quarters : new int[] {0, -1, 97, Integer.MAX_VALUE}) {
            check.refusesArgument("for " + quarters, () -> k.pay(0, 0, 100, quarters));
        }
        check.is("refused, it costs nothing", k.streetIs(0, 2), 0);
        check.is("from 4 at 100", k.pay(0, 0, 4, 1), 3);
        check.is("from 100 at 100", k.pay(0, 0, 100, 96), 288);
    }

    private static void paymentsAreTwoHundred(Check check) {
        KerbHours k = withOne();
        k.sign(0, 0, 59, ALL, 0, true, false);
        for (int i = 0; i < 200; i++) {
            check.is("payment " + i, k.pay(0, i % 4, 0, 1), 4);
        }
        check.refusesState("payment 200", () -> k.pay(0, 0, 0, 96));
        check.refusesArgument("payment 200 for 0", () -> k.pay(0, 0, 0, 0));
        check.refusesIndex("payment 200 of car 1", () -> k.pay(1, 0, 0, 0));
        check.is("cost", k.streetIs(0, 2), 200);
        k.pass(2);
        check.is("the refused one covers nothing", k.judge(0), KerbHours.UNPAID);
    }

    private static void judgedInOrder(Check check) {
        KerbHours k = withOne();
        check.refusesIndex("judge(-1)", () -> k.judge(-1));
        check.refusesIndex("judge(1)", () -> k.judge(1));
        check.is("without a sign", k.judge(0), KerbHours.FINE);
        k.sign(0, 0, 59, ALL, 1, true, false);
        check.is("at once", k.judge(0), KerbHours.FINE);
        k.pass(2);
        check.is("2 quarters", k.judge(0), KerbHours.UNPAID);
        k.pass(1);
        check.is("3 quarters", k.judge(0), KerbHours.OVERSTAYED);
        k.pay(0, 0, 0, 96);
        check.is("paid, but 3 quarters", k.judge(0), KerbHours.OVERSTAYED);
        k.sign(0, 2, 2, NOBODY, 0, false, false);
        check.is("its last metre", k.judge(0), KerbHours.FORBIDDEN);
        k.block(0, 2, true);
        check.is("its last metre, blocked", k.judge(0), KerbHours.BLOCKED);
        k.block(0, 2, false);
        k.block(0, 3, true);
        k.takeDown(1);
        k.sign(0, 3, 3, NOBODY, 0, false, false);
        check.is("the metre behind it", k.judge(0), KerbHours.OVERSTAYED);
        k.block(0, 0, true);
        check.is("its first metre, blocked", k.judge(0), KerbHours.BLOCKED);
        k.leave(0);
        check.is("gone", k.judge(0), KerbHours.NONE);
    }

    private static void judgedByUser(Check check) {
        for (int user = 0; user < 5; user++) {
            for (int users = 0; users < 32; users++) {
                KerbHours k = new KerbHours();
                k.car(4, user);
                k.sign(0, 12, 12, users, 0, false, false);
                k.park(0, 0, 10);
                int as = user == KerbHours.RESIDENT ? V : user;
                int due = (users >> as) % 2 == 1 ? KerbHours.FINE : KerbHours.FORBIDDEN;
                check.is("user " + user + " by " + users, k.judge(0), due);
                k.permit(0, 0, 0, 0, 0);
                due = (users >> user) % 2 == 1 ? KerbHours.FINE : KerbHours.FORBIDDEN;
                check.is("user " + user + " by " + users + " with a permit", k.judge(0), due);
            }
        }
    }

    private static void judgedByStay(Check check) {
        KerbHours k = withOne();
        k.car(3, V);
        k.park(1, 0, 10);
        k.car(3, V);
        k.park(2, 0, 20);
        k.sign(0, 0, 0, ALL, 2, false, false);
        k.sign(0, 11, 12, ALL, 2, false, false);
        k.sign(0, 20, 22, ALL, 96, false, false);
        k.pass(3);
        check.is("the stay and 1", k.judge(0), KerbHours.FINE);
        k.pass(1);
        check.is("the stay and 2", k.judge(0), KerbHours.OVERSTAYED);
        check.is("not by its other metres", k.judge(1), KerbHours.FINE);
        k.pass(93);
        check.is("97 quarters by 96", k.judge(2), KerbHours.FINE);
        k.pass(1);
        check.is("98 quarters by 96", k.judge(2), KerbHours.OVERSTAYED);
        k.sign(0, 20, 20, ALL, 0, false, false);
        check.is("98 quarters by any", k.judge(2), KerbHours.FINE);
    }

    private static void judgedByFee(Check check) {
        KerbHours k = withOne();
        k.car(3, V);
        k.park(1, 0, 10);
        k.sign(0, 0, 0, ALL, 0, true, false);
        k.sign(0, 11, 12, ALL, 0, true, false);
        check.is("0 quarters", k.judge(0), KerbHours.FINE);
        k.pass(1);
        check.is("1 quarter", k.judge(0), KerbHours.FINE);
        k.pass(1);
        check.is("2 quarters", k.judge(0), KerbHours.UNPAID);
        check.is("not by its other metres", k.judge(1), KerbHours.FINE);
    }

    private static void judgedByPayment(Check check) {
        KerbHours k = withOne();
        k.car(3, V);
        k.sign(0, 0, 59, ALL, 0, true, false);
        k.pass(10);
        k.pay(1, 0, 10, 5);
        check.is("another car's", k.judge(0), KerbHours.UNPAID);
        k.pay(0, 1, 10, 5);
        check.is("of another street", k.judge(0), KerbHours.UNPAID);
        k.pay(0, 0, 5, 5);
        check.is("up to now", k.judge(0), KerbHours.UNPAID);
        k.pay(0, 0, 8, 3);
        check.is("with now", k.judge(0), KerbHours.FINE);
        k.pass(1);
        check.is("a quarter later", k.judge(0), KerbHours.UNPAID);
        k.pay(0, 0, 11, 1);
        check.is("from now on", k.judge(0), KerbHours.FINE);
    }

    private static void judgedOnItsMetresAlone(Check check) {
        KerbHours k = new KerbHours();
        k.car(3, V);
        k.pass(30);
        k.sign(0, 19, 19, NOBODY, 1, true, false);
        k.sign(0, 23, 23, NOBODY, 1, true, false);
        k.block(0, 19, true);
        k.block(0, 23, true);
        k.park(0, 0, 20);
        k.pass(3);
        check.is("between what is wrong", k.judge(0), KerbHours.FINE);
        k.sign(0, 20, 22, ALL, 2, false, false);
        check.is("parked at 30, the stay and 1", k.judge(0), KerbHours.FINE);
        k.pass(1);
        check.is("parked at 30, the stay and 2", k.judge(0), KerbHours.OVERSTAYED);
    }

    /** Signs and permits that begin or end with the next quarter do not count at this one. */
    private static void judgedByItsQuarter(Check check) {
        KerbHours k = new KerbHours();
        k.car(3, KerbHours.RESIDENT);
        k.park(0, 0, 0);
        k.sign(0, 0, 2, 1 << KerbHours.RESIDENT, 0, false, false);
        k.times(127, 95, 96);
        k.sign(0, 0, 1, ALL, 0, true, false);
        k.permit(0, 0, 0, 0, 0);
        k.pass(94);
        check.is("the last quarter ahead of the second sign", k.judge(0), KerbHours.FINE);
        k.pass(1);
        check.is("the last quarter of the permit", k.judge(0), KerbHours.UNPAID);
        check.is("look", k.look(0), 1);
        k.pass(1);
        check.is("the day behind the permit", k.judge(0), KerbHours.FORBIDDEN);
        k.pay(0, 0, 96, 5);
        check.is("a payment from the next quarter on", k.appeal(0), false);
    }

    private static void look(Check check) {
        KerbHours k = new KerbHours();
        for (int i = 0; i < 4; i++) {
            k.car(3, i == 1 ? KerbHours.TAXI : V);
        }
        k.sign(0, 0, 59, 1 << KerbHours.TAXI, 0, false, false);
        k.sign(1, 0, 59, NOBODY, 0, false, false);
        k.park(3, 0, 0);
        k.park(1, 0, 4);
        k.park(2, 1, 0);
        k.park(0, 0, 20);
        k.pass(7);
        check.refusesIndex("look(-1)", () -> k.look(-1));
        check.refusesIndex("look(4)", () -> k.look(4));
        check.is("look(2)", k.look(2), 0);
        check.is("look(0)", k.look(0), 2);
        check.is("look(1)", k.look(1), 1);
        int[] cars = {0, 3, 2};
        for (int i = 0; i < 3; i++) {
            check.is("car of " + i, k.fine(i, 0), cars[i]);
            check.is("street of " + i, k.fine(i, 1), i == 2 ? 1 : 0);
            check.is("quarter of " + i, k.fine(i, 2), 7);
            check.is("judgement of " + i, k.fine(i, 3), KerbHours.FORBIDDEN);
        }
        check.refusesIndex("no fourth", () -> k.fine(3, 0));
        check.is("fines of 0", k.streetIs(0, 3), 2);
        check.is("fines of 1", k.streetIs(1, 3), 1);
        check.is("fines of 2", k.streetIs(2, 3), 0);
    }

    private static void oneFineOnADay(Check check) {
        KerbHours k = withOne();
        k.sign(0, 0, 59, NOBODY, 0, false, false);
        k.pass(94);
        check.is("first", k.look(0), 1);
        check.is("again", k.look(0), 0);
        k.block(0, 0, true);
        k.pass(1);
        check.is("blocked, on the same day", k.look(0), 0);
        k.pass(1);
        check.is("on the next day", k.look(0), 1);
        check.is("judgement of the next day", k.fine(1, 3), KerbHours.BLOCKED);
        k.takeDown(0);
        k.pass(96);
        check.is("on the third day", k.look(0), 1);
        k.block(0, 0, false);
        k.pass(1);
        k.leave(0);
        k.sign(0, 0, 0, NOBODY, 0, false, false);
        k.pass(1);
        k.park(0, 0, 0);
        check.is("parked anew on the same day", k.look(0), 1);
        check.is("and again", k.look(0), 0);
        k.leave(0);
        k.park(0, 0, 0);
        check.is("parked anew in the same quarter", k.look(0), 1);
        k.permit(0, 0, 0, 0, 520);
        check.is("payFine(4)", k.payFine(4), 60);
        check.is("paid, on the same day", k.look(0), 0);
    }

    private static void finesAreSixty(Check check) {
        KerbHours k = new KerbHours();
        for (int i = 0; i < 13; i++) {
            k.car(3, V);
            k.park(i, 0, i * 4);
        }
        k.sign(0, 0, 59, NOBODY, 0, false, false);
        for (int day = 0; day < 4; day++) {
            check.is("look of day " + day, k.look(0), 13);
            k.pass(96);
        }
        check.is("up to sixty", k.look(0), 8);
        check.is("the last one's car", k.fine(59, 0), 7);
        check.refusesIndex("no fine 60", () -> k.fine(60, 0));
        check.is("no more on the day", k.look(0), 0);
        k.pass(96);
        check.is("no more ever", k.look(0), 0);
        check.is("fines of the street", k.streetIs(0, 3), 60);
        check.is("debt of car 7", k.debt(7), 300);
        check.is("debt of car 8", k.debt(8), 240);
        check.is("payFine(0)", k.payFine(0), 60);
        check.is("no more for a paid one", k.look(0), 0);
    }

    private static void appealByPayment(Check check) {
        KerbHours k = withOne();
        k.sign(0, 0, 59, ALL, 0, true, false);
        k.pass(90);
        k.look(0);
        k.pass(20);
        k.look(0);
        k.leave(0);
        k.pay(0, 0, 88, 3);
        check.is("covered later", k.appeal(0), true);
        check.is("taken back", k.fine(0, 4), 1);
        check.is("it keeps its judgement", k.fine(0, 3), KerbHours.UNPAID);
        k.pay(0, 0, 20, 90);
        check.is("covered up to it", k.appeal(1), false);
        check.is("not taken back", k.fine(1, 4), 0);
        check.is("debt", k.debt(0), 40);
    }

    private static void appealByPermit(Check check) {
        KerbHours k = new KerbHours();
        k.car(3, KerbHours.RESIDENT);
        k.car(3, KerbHours.RESIDENT);
        k.sign(2, 0, 59, 1 << KerbHours.RESIDENT, 0, false, false);
        k.park(0, 2, 0);
        k.park(1, 2, 10);
        check.is("day 0", k.look(2), 2);
        k.pass(96);
        check.is("day 1", k.look(2), 2);
        k.pass(96);
        k.permit(0, 2, 0, 1, 1);
        check.is("no permit of day 0", k.appeal(0), false);
        check.is("a permit of day 1", k.appeal(2), true);
        k.hand(0, 1);
        check.is("a permit handed", k.appeal(3), true);
        k.permit(1, 1, 1, 0, 0);
        check.is("a permit of another street", k.appeal(1), false);
        check.is("debt of 0", k.debt(0), 60);
        check.is("debt of 1", k.debt(1), 60);
    }

    private static void appealByBlockedMetres(Check check) {
        KerbHours k = withOne();
        k.car(3, V);
        k.park(1, 0, 10);
        k.sign(0, 10, 12, ALL, 0, true, false);
        k.block(0, 1, true);
        k.pass(5);
        check.is("look", k.look(0), 2);
        k.block(0, 1, false);
        k.block(0, 11, true);
        check.is("it was blocked", k.appeal(0), false);
        k.pay(1, 0, 5, 1);
        check.is("it was not blocked", k.appeal(1), true);
    }

    private static void appealBySigns(Check check) {
        KerbHours k = withOne();
        k.sign(0, 0, 59, NOBODY, 0, false, false);
        k.pass(3);
        k.look(0);
        k.takeDown(0);
        check.is("taken down in its quarter", k.appeal(0), true);
        k.pass(96);
        k.sign(0, 0, 59, NOBODY, 0, false, false);
        k.look(0);
        k.pass(1);
        k.takeDown(1);
        k.sign(0, 0, 0, ALL, 0, false, false);
        check.is("taken down later", k.appeal(1), false);
        check.is("no look without a sign", k.look(0), 0);
        k.pass(95);
        k.sign(0, 0, 2, NOBODY, 0, false, false);
        check.is("a third", k.look(0), 1);
        k.sign(0, 0, 2, ALL, 0, false, false);
        check.is("another one in its quarter", k.appeal(2), true);
    }

    private static void appealRefused(Check check) {
        KerbHours k = withOne();
        k.sign(0, 0, 59, ALL, 1, true, false);
        check.refusesIndex("appeal(0) without a fine", () -> k.appeal(0));
        k.pass(2);
        k.look(0);
        k.pass(96);
        k.look(0);
        k.pass(96);
        k.look(0);
        check.refusesIndex("appeal(-1)", () -> k.appeal(-1));
        check.refusesIndex("appeal(3)", () -> k.appeal(3));
        check.is("in vain", k.appeal(1), false);
        check.is("it stays as it was", k.fine(1, 3), KerbHours.OVERSTAYED);
        check.refusesState("once only, in vain", () -> k.appeal(1));
        k.payFine(2);
        check.refusesState("paid", () -> k.appeal(2));
        check.is("not taken back", k.fine(2, 4), 0);
        check.is("what was appealed in vain can be paid", k.payFine(1), 30);
        check.refusesState("both", () -> k.appeal(1));
        KerbHours other = withOne();
        other.sign(0, 0, 59, ALL, 0, true, false);
        other.pass(2);
        other.look(0);
        other.pay(0, 0, 2, 1);
        check.is("taken back", other.appeal(0), true);
        check.refusesState("once only, taken back", () -> other.appeal(0));
        check.is("it is still taken back", other.fine(0, 4), 1);
    }

    private static void payFine(Check check) {
        KerbHours k = new KerbHours();
        for (int i = 0; i < 4; i++) {
            k.car(3, V);
            k.park(i, 0, i * 10);
        }
        k.block(0, 0, true);
        k.sign(0, 10, 12, NOBODY, 0, false, false);
        k.sign(0, 20, 22, ALL, 1, false, false);
        k.sign(0, 30, 32, ALL, 0, true, false);
        k.pass(3);
        check.is("four fines", k.look(0), 4);
        int[] amounts = {100, 60, 30, 40};
        for (int i = 0; i < 4; i++) {
            check.is("debt of " + i, k.debt(i), amounts[i]);
        }
        check.is("appeal(3)", k.pay(3, 0, 3, 1) == 4 && k.appeal(3), true);
        check.refusesState("taken back", () -> k.payFine(3));
        check.is("not paid", k.fine(3, 5), 0);
        for (int i = 0; i < 3; i++) {
            check.is("payFine(" + i + ")", k.payFine(i), amounts[i]);
            int paid = i;
            check.refusesState("paid " + i, () -> k.payFine(paid));
            check.is("debt of paid " + i, k.debt(i), 0);
        }
        check.refusesIndex("payFine(-1)", () -> k.payFine(-1));
        check.refusesIndex("payFine(4)", () -> k.payFine(4));
    }

    private static void tellsOfAFine(Check check) {
        KerbHours k = new KerbHours();
        k.car(3, V);
        k.car(3, V);
        k.block(2, 1, true);
        k.park(1, 2, 1);
        k.pass(50);
        k.look(2);
        int[] due = {1, 2, 50, KerbHours.BLOCKED, 0, 0};
        for (int what = 0; what < 6; what++) {
            check.is("fine(0, " + what + ")", k.fine(0, what), due[what]);
        }
        k.payFine(0);
        check.is("fine(0, 5), paid", k.fine(0, 5), 1);
        check.is("fine(0, 4), paid", k.fine(0, 4), 0);
        for (int what : new int[] {-1, 6, Integer.MAX_VALUE, Integer.MIN_VALUE}) {
            check.refusesArgument("fine(0, " + what + ")", () -> k.fine(0, what));
            check.refusesIndex("fine(1, " + what + ")", () -> k.fine(1, what));
        }
        check.refusesIndex("fine(-1, 0)", () -> k.fine(-1, 0));
    }

    private static void debtAndTow(Check check) {
        KerbHours k = withOne();
        k.car(3, V);
        k.block(0, 0, true);
        check.refusesIndex("debt(-1)", () -> k.debt(-1));
        check.refusesIndex("debt(2)", () -> k.debt(2));
        check.refusesIndex("tow(-1)", () -> k.tow(-1));
        check.refusesIndex("tow(2)", () -> k.tow(2));
        check.is("no debt", k.debt(0), 0);
        check.refusesState("tow without a debt", () -> k.tow(0));
        k.look(0);
        k.pass(96);
        k.block(0, 0, false);
        k.sign(0, 0, 0, NOBODY, 0, false, false);
        k.look(0);
        k.pass(96);
        k.takeDown(0);
        k.sign(0, 0, 0, ALL, 1, false, false);
        k.look(0);
        check.is("debt of three", k.debt(0), 190);
        check.refusesState("tow by 190", () -> k.tow(0));
        k.payFine(2);
        k.pass(96);
        k.takeDown(1);
        k.sign(0, 0, 0, ALL, 0, true, false);
        k.look(0);
        check.is("debt of 200", k.debt(0), 200);
        check.is("of another car", k.debt(1), 0);
        check.is("tow by 200", k.tow(0), 200);
        check.is("it stands no more", k.judge(0), KerbHours.NONE);
        check.is("nothing taken", k.streetIs(0, 1), 0);
        check.is("it still owes", k.debt(0), 200);
        check.refusesState("towed", () -> k.tow(0));
        check.refusesState("it cannot leave", () -> k.leave(0));
        k.park(0, 1, 0);
        check.is("towed again", k.tow(0), 200);
        k.park(0, 1, 0);
        k.payFine(0);
        check.refusesState("after a payment", () -> k.tow(0));
    }
}
