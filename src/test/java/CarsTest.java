/** Promises 9 to 15: cars, permits and gaps. */
public final class CarsTest {
    public static void main(String[] args) {
        Check check = new Check("CarsTest");
        car(check);
        permitRefused(check);
        homeHasTwo(check);
        homeHasTwoFromTheFirstOn(check);
        permitsAreForty(check);
        countsAs(check);
        hand(check);
        park(check);
        parkRefused(check);
        leave(check);
        gap(check);
        check.end();
    }

    private static void car(Check check) {
        KerbHours k = new KerbHours();
        int[][] wrong = {{2, 0}, {13, 0}, {3, -1}, {3, 5}, {-5, 0}, {Integer.MAX_VALUE, 0}, {3, Integer.MIN_VALUE}};
        for (int[] w : wrong) {
            check.refusesArgument("car(" + w[0] + ", " + w[1] + ")", () -> k.car(w[0], w[1]));
        }
        check.is("car(3, RESIDENT)", k.car(3, KerbHours.RESIDENT), 0);
        check.is("car(12, VISITOR)", k.car(12, KerbHours.VISITOR), 1);
        for (int i = 2; i < 30; i++) {
            check.is("car " + i, k.car(5, KerbHours.TAXI), i);
        }
        check.refusesState("car 30", () -> k.car(5, 1));
        check.refusesArgument("car 30 of length 2", () -> k.car(2, 1));
        check.is("judge(29)", k.judge(29), KerbHours.NONE);
        check.refusesIndex("judge(30)", () -> k.judge(30));
    }

    private static void permitRefused(Check check) {
        KerbHours k = new KerbHours();
        k.car(3, 0);
        int[][] index = {{-1, 0, 0}, {1, 0, 0}, {0, -1, 0}, {0, 4, 0}, {0, 0, -1}, {0, 0, 10}};
        for (int[] w : index) {
            String call = "permit(" + w[0] + ", " + w[1] + ", " + w[2] + ")";
            check.refusesIndex(call, () -> k.permit(w[0], w[1], w[2], 0, 0));
            check.refusesIndex(call + " from 5 to 4", () -> k.permit(w[0], w[1], w[2], 5, 4));
        }
        int[][] days = {{-1, 0}, {521, 521}, {5, 4}, {0, 521}, {0, Integer.MAX_VALUE}};
        for (int[] w : days) {
            check.refusesArgument("permit from " + w[0] + " to " + w[1], () -> k.permit(0, 0, 0, w[0], w[1]));
        }
        check.is("the first that is not refused", k.permit(0, 0, 0, 0, 520), 0);
        check.is("the second", k.permit(0, 3, 9, 520, 520), 1);
    }

    private static void homeHasTwo(Check check) {
        KerbHours k = new KerbHours();
        k.car(3, 0);
        k.car(3, 0);
        check.is("permit of days 10 to 20", k.permit(0, 0, 4, 10, 20), 0);
        check.is("permit of days 15 to 30", k.permit(1, 1, 4, 15, 30), 1);
        check.refusesState("a third from 20 on", () -> k.permit(0, 2, 4, 20, 40));
        check.refusesState("a third to 15", () -> k.permit(0, 2, 4, 0, 15));
        check.refusesState("a third round both", () -> k.permit(0, 2, 4, 0, 520));
        check.refusesState("a third inside both", () -> k.permit(0, 2, 4, 17, 18));
        check.refusesState("the same again", () -> k.permit(0, 0, 4, 10, 20));
        check.refusesArgument("days go ahead of the home", () -> k.permit(0, 2, 4, 18, 17));
        check.is("of another home", k.permit(0, 2, 5, 0, 520), 2);
        check.is("two from 21 on", k.permit(0, 2, 4, 21, 40), 3);
        check.is("two to 14", k.permit(0, 2, 4, 0, 14), 4);
        check.refusesState("a third on 14", () -> k.permit(0, 3, 4, 14, 14));
        check.is("a second on 9", k.permit(0, 3, 4, 9, 9), 5);
        check.refusesState("a third on 9", () -> k.permit(0, 3, 4, 9, 9));
        check.is("hand changes no home", k.hand(0, 1), 0);
        check.refusesState("a third, handed", () -> k.permit(0, 2, 4, 17, 18));
    }

    private static void homeHasTwoFromTheFirstOn(Check check) {
        KerbHours k = new KerbHours();
        k.car(3, 0);
        k.permit(0, 0, 7, 15, 30);
        k.permit(0, 0, 7, 10, 20);
        check.refusesState("a third over the begin of the first", () -> k.permit(0, 0, 7, 5, 16));
        check.is("a second up to it", k.permit(0, 0, 7, 5, 14), 2);
        check.refusesState("a third on 14", () -> k.permit(0, 0, 7, 14, 14));
    }

    private static void permitsAreForty(Check check) {
        KerbHours k = new KerbHours();
        k.car(3, 0);
        for (int i = 0; i < 40; i++) {
            check.is("permit " + i, k.permit(0, 0, i / 4, i % 4 * 10, i % 4 * 10 + 9), i);
        }
        check.refusesState("permit 40", () -> k.permit(0, 0, 0, 500, 500));
        check.refusesArgument("permit 40 to 521", () -> k.permit(0, 0, 0, 500, 521));
        check.refusesIndex("permit 40 of home 10", () -> k.permit(0, 0, 10, 500, 521));
        check.is("hand(39)", k.hand(39, 0), 0);
        check.refusesIndex("hand(40)", () -> k.hand(40, 0));
    }

    private static void countsAs(Check check) {
        KerbHours k = new KerbHours();
        for (int user = 0; user < 5; user++) {
            k.car(3, user);
        }
        check.is("RESIDENT without a permit", k.countsAs(0, 0), KerbHours.VISITOR);
        for (int user = 1; user < 5; user++) {
            check.is("user " + user, k.countsAs(user, 0), user);
            k.permit(user, 0, user, 0, 520);
            check.is("user " + user + " with a permit", k.countsAs(user, 0), user);
        }
        int second = k.car(3, KerbHours.RESIDENT);
        k.permit(second, 1, 9, 0, 0);
        check.is("the car of the permit", k.countsAs(second, 1), KerbHours.RESIDENT);
        check.is("the first car, by the permit of another", k.countsAs(0, 1), KerbHours.VISITOR);
        k.permit(0, 2, 0, 1, 2);
        check.is("ahead of its days", k.countsAs(0, 2), KerbHours.VISITOR);
        k.pass(95);
        check.is("on the last quarter ahead", k.countsAs(0, 2), KerbHours.VISITOR);
        k.pass(1);
        check.is("on its first day", k.countsAs(0, 2), KerbHours.RESIDENT);
        check.is("of another street", k.countsAs(0, 1), KerbHours.VISITOR);
        k.pass(96);
        k.pass(95);
        check.is("on its last quarter", k.countsAs(0, 2), KerbHours.RESIDENT);
        k.pass(1);
        check.is("behind its days", k.countsAs(0, 2), KerbHours.VISITOR);
        check.refusesIndex("countsAs(-1, 0)", () -> k.countsAs(-1, 0));
        check.refusesIndex("countsAs(6, 0)", () -> k.countsAs(6, 0));
        check.refusesIndex("countsAs(0, -1)", () -> k.countsAs(0, -1));
        check.refusesIndex("countsAs(0, 4)", () -> k.countsAs(0, 4));
    }

    private static void hand(Check check) {
        KerbHours k = new KerbHours();
        k.car(3, 0);
        k.car(3, 0);
        k.car(3, 3);
        k.permit(0, 1, 0, 0, 5);
        check.refusesIndex("hand(-1, 0)", () -> k.hand(-1, 0));
        check.refusesIndex("hand(1, 0)", () -> k.hand(1, 0));
        check.refusesIndex("hand(0, -1)", () -> k.hand(0, -1));
        check.refusesIndex("hand(0, 3)", () -> k.hand(0, 3));
        check.is("refused, it stays", k.countsAs(0, 1), KerbHours.RESIDENT);
        check.is("hand(0, 1)", k.hand(0, 1), 0);
        check.is("who had it", k.countsAs(0, 1), KerbHours.VISITOR);
        check.is("who has it", k.countsAs(1, 1), KerbHours.RESIDENT);
        check.is("to the same", k.hand(0, 1), 1);
        check.is("to a taxi", k.hand(0, 2), 1);
        check.is("a taxi is a taxi", k.countsAs(2, 1), KerbHours.TAXI);
        check.is("back", k.hand(0, 0), 2);
        check.is("who has it again", k.countsAs(0, 1), KerbHours.RESIDENT);
    }

    private static void park(Check check) {
        KerbHours k = new KerbHours();
        k.car(5, 4);
        k.car(4, 4);
        k.car(12, 4);
        k.park(0, 0, 20);
        check.is("taken", k.streetIs(0, 1), 5);
        check.refusesState("on it", () -> k.park(1, 0, 22));
        check.refusesState("right behind it", () -> k.park(1, 0, 25));
        check.refusesState("right ahead of it", () -> k.park(1, 0, 16));
        check.refusesState("round it", () -> k.park(2, 0, 15));
        k.park(1, 0, 26);
        check.is("taken by two", k.streetIs(0, 1), 9);
        k.leave(1);
        k.park(1, 0, 15);
        check.is("taken by two again", k.streetIs(0, 1), 9);
        k.leave(1);
        k.park(1, 1, 22);
        check.is("the same metres of another street", k.streetIs(1, 1), 4);
        k.block(2, 5, true);
        k.park(2, 2, 0);
        check.is("a blocked metre is no wall", k.judge(2), KerbHours.BLOCKED);
    }

    private static void parkRefused(Check check) {
        KerbHours k = new KerbHours();
        k.car(3, 4);
        k.car(12, 4);
        int[][] index = {{-1, 0, 0}, {2, 0, 0}, {0, -1, 0}, {0, 4, 0}, {0, 0, -1}, {0, 0, 60}};
        for (int[] w : index) {
            check.refusesIndex("park(" + w[0] + ", " + w[1] + ", " + w[2] + ")", () -> k.park(w[0], w[1], w[2]));
        }
        check.refusesState("3 metres at 58", () -> k.park(0, 0, 58));
        check.refusesState("12 metres at 49", () -> k.park(1, 0, 49));
        check.is("refused, it does not stand", k.judge(0), KerbHours.NONE);
        k.park(0, 0, 57);
        k.park(1, 1, 48);
        check.refusesState("it stands already", () -> k.park(0, 0, 0));
        check.refusesState("it stands already, elsewhere", () -> k.park(0, 2, 0));
        check.refusesIndex("no metre, though it stands", () -> k.park(0, 0, 60));
        check.is("taken of 0", k.streetIs(0, 1), 3);
        check.is("taken of 1", k.streetIs(1, 1), 12);
        check.is("taken of 2", k.streetIs(2, 1), 0);
    }

    private static void leave(Check check) {
        KerbHours k = new KerbHours();
        k.car(7, 4);
        check.refusesState("it never stood", () -> k.leave(0));
        check.refusesIndex("leave(-1)", () -> k.leave(-1));
        check.refusesIndex("leave(1)", () -> k.leave(1));
        k.pass(5);
        k.park(0, 3, 53);
        check.is("left at once", k.leave(0), 0);
        check.refusesState("it has left", () -> k.leave(0));
        check.is("nothing taken", k.streetIs(3, 1), 0);
        k.park(0, 3, 53);
        k.pass(96);
        k.pass(20);
        check.is("left later", k.leave(0), 116);
        check.is("judge of one that left", k.judge(0), KerbHours.NONE);
        check.is("its place is free", k.gap(3, 12), 0);
    }

    private static void gap(Check check) {
        KerbHours k = new KerbHours();
        for (int i = 0; i < 5; i++) {
            k.car(i == 4 ? 3 : 12, 4);
        }
        k.block(0, 0, true);
        check.is("gap(0, 3), blocked or not", k.gap(0, 3), 0);
        k.park(0, 0, 4);
        check.is("gap ahead of one", k.gap(0, 3), 0);
        check.is("gap too short by one", k.gap(0, 4), 17);
        k.park(1, 0, 17);
        k.park(2, 0, 30);
        check.is("gap behind three", k.gap(0, 12), 43);
        k.park(3, 0, 44);
        check.is("only the first place", k.gap(0, 3), 0);
        check.is("4 metres, none", k.gap(0, 4), KerbHours.NONE);
        k.park(4, 0, 0);
        check.is("3 metres, up to the end", k.gap(0, 3), 57);
        check.is("another street", k.gap(1, 12), 0);
        check.refusesIndex("gap(-1, 3)", () -> k.gap(-1, 3));
        check.refusesIndex("gap(4, 3)", () -> k.gap(4, 3));
        check.refusesIndex("gap(4, 2)", () -> k.gap(4, 2));
        for (int length : new int[] {2, 13, -1, Integer.MAX_VALUE, Integer.MIN_VALUE}) {
            check.refusesArgument("gap of " + length, () -> k.gap(0, length));
        }
    }
}
