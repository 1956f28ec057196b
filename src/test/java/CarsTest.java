/** What the terms say of cars, permits, places and gaps. */
public final class CarsTest {
    static final Sentence[] SENTENCES = {
        Sentence.term("Cars are numbered from 0, at most 30;", CarsTest::carsAreThirty),
        Sentence.term("a car has a length, 3 to 12 metres,", CarsTest::lengths),
        Sentence.term("and is of a user: RESIDENT, CARER, LORRY, TAXI or VISITOR.", CarsTest::users),
        Sentence.term("A RESIDENT counts as a VISITOR at a quarter,", CarsTest::residentAlone),
        Sentence.term("if no permit of the car", CarsTest::permitOfTheCar),
        Sentence.term("for that street", CarsTest::permitForThatStreet),
        Sentence.term("holds on its day.", CarsTest::permitOnItsDay),
        Sentence.term("A permit is of a car, a street and a home, 0 to 9,", CarsTest::homes),
        Sentence.term("from a day to another one, both with it;", CarsTest::bothDaysWithIt),
        Sentence.term("it may be told for days gone by.", CarsTest::forDaysGoneBy),
        Sentence.term("A home may have two on each day at most,", CarsTest::homeHasTwo),
        Sentence.term("A home may have two on each day at most,", CarsTest::homeHasTwoOnEachOfItsDays),
        Sentence.term("on each day", CarsTest::homeHasMoreThanTwoOnOtherDays),
        Sentence.term("of whatever street.", CarsTest::ofWhateverStreet),
        Sentence.term("A car parks at a metre of a street, and takes so many from there on as it is long;",
                CarsTest::takesItsLength),
        Sentence.term("no metre may be taken by two,", CarsTest::noMetreByTwo),
        Sentence.term("and one at least has to be free between two cars.", CarsTest::oneMetreBetween),
        Sentence.term("To be on a blocked one is possible, but not allowed.", CarsTest::onABlockedOne),
        Sentence.term("It stands from that quarter on, till it leaves,", CarsTest::standsTillItLeaves),
        Sentence.term("and has stood as many quarters as passed since.", CarsTest::hasStood),
        Sentence.term("A gap for a length is where it can park,", CarsTest::gapIsWhereItCanPark),
        Sentence.term("blocked or not.", CarsTest::gapBlockedOrNot),
    };

    public static void main(String[] args) {
        Sentence.runAll("CarsTest", SENTENCES);
    }

    private static void carsAreThirty(Check check) {
        KerbHours k = new KerbHours();
        for (int i = 0; i < 30; i++) {
            check.is("car " + i, k.car(3 + i % 10, i % 5), i);
        }
        check.refusesState("car 30", () -> k.car(3, 0));
        check.is("the last one", k.judge(29), Moves.NONE);
        check.refusesIndex("none behind it", () -> k.judge(30));
    }

    private static void lengths(Check check) {
        KerbHours k = new KerbHours();
        check.refusesArgument("2 metres", () -> k.car(2, 0));
        check.refusesArgument("13 metres", () -> k.car(13, 0));
        for (int length = 3; length <= 12; length++) {
            int car = k.car(length, Moves.VISITOR);
            k.park(car, 0, 0);
            check.is(length + " metres", k.streetIs(0, 1), length);
            k.leave(car);
        }
    }

    private static void users(Check check) {
        KerbHours k = new KerbHours();
        check.refusesArgument("user -1", () -> k.car(3, -1));
        check.refusesArgument("user 5", () -> k.car(3, 5));
        for (int user = 0; user < 5; user++) {
            check.is("user " + user, k.car(3, user), user);
            k.permit(user, 0, user, 0, 0);
            check.is("user " + user + " with a permit", k.countsAs(user, 0), user);
        }
    }

    private static void residentAlone(Check check) {
        KerbHours k = new KerbHours();
        int[] without = {Moves.VISITOR, 1, 2, 3, 4};
        for (int user = 0; user < 5; user++) {
            k.car(3, user);
            check.is("user " + user + " without a permit", k.countsAs(user, 0), without[user]);
        }
    }

    private static void permitOfTheCar(Check check) {
        KerbHours k = new KerbHours();
        k.car(3, Moves.RESIDENT);
        k.car(3, Moves.RESIDENT);
        k.car(3, Moves.RESIDENT);
        k.permit(1, 0, 0, 0, 0);
        check.is("the car ahead of it", k.countsAs(0, 0), Moves.VISITOR);
        check.is("its car", k.countsAs(1, 0), Moves.RESIDENT);
        check.is("the car behind it", k.countsAs(2, 0), Moves.VISITOR);
    }

    private static void permitForThatStreet(Check check) {
        for (int street = 0; street < 4; street++) {
            KerbHours k = new KerbHours();
            k.car(3, Moves.RESIDENT);
            k.permit(0, street, 0, 0, 0);
            for (int other = 0; other < 4; other++) {
                check.is("street " + other + " by " + street, k.countsAs(0, other), other == street ? 0 : Moves.VISITOR);
            }
        }
    }

    private static void permitOnItsDay(Check check) {
        KerbHours k = new KerbHours();
        Moves.parked(k, 3, Moves.RESIDENT, 0, 0);
        Moves.letting(k, 1 << Moves.RESIDENT, 0, 0, 59);
        k.permit(0, 0, 0, 1, 2);
        k.pass(95);
        check.is("the quarter ahead", k.judge(0), KerbHours.FORBIDDEN);
        k.pass(1);
        check.is("the first quarter", k.judge(0), KerbHours.FINE);
        k.pass(96);
        k.pass(95);
        check.is("the last quarter", k.judge(0), KerbHours.FINE);
        k.pass(1);
        check.is("the quarter behind", k.judge(0), KerbHours.FORBIDDEN);
        check.is("countsAs", k.countsAs(0, 0), Moves.VISITOR);
    }

    private static void homes(Check check) {
        KerbHours k = new KerbHours();
        k.car(3, Moves.RESIDENT);
        check.refusesIndex("home -1", () -> k.permit(0, 0, -1, 0, 0));
        check.refusesIndex("home 10", () -> k.permit(0, 0, 10, 0, 0));
        check.is("home 0", k.permit(0, 0, 0, 0, 0), 0);
        check.is("home 9", k.permit(0, 0, 9, 0, 0), 1);
    }

    private static void bothDaysWithIt(Check check) {
        KerbHours k = new KerbHours();
        k.car(3, Moves.RESIDENT);
        k.permit(0, 0, 0, 2, 4);
        for (int day = 0; day < 7; day++) {
            check.is("day " + day, k.countsAs(0, 0), day >= 2 && day <= 4 ? Moves.RESIDENT : Moves.VISITOR);
            k.pass(96);
        }
        k.permit(0, 0, 0, 7, 7);
        check.is("a permit of one day", k.countsAs(0, 0), Moves.RESIDENT);
        k.pass(96);
        check.is("the day behind it", k.countsAs(0, 0), Moves.VISITOR);
    }

    private static void forDaysGoneBy(Check check) {
        KerbHours k = new KerbHours();
        Moves.parked(k, 3, Moves.RESIDENT, 0, 0);
        Moves.letting(k, 1 << Moves.RESIDENT, 0, 0, 59);
        k.look(0);
        Moves.passDays(k, 5);
        check.is("a permit of day 0, told on day 5", k.permit(0, 0, 0, 0, 0), 0);
        check.is("it holds on that day", k.appeal(0), true);
        check.is("it does not hold now", k.countsAs(0, 0), Moves.VISITOR);
        check.is("up to yesterday", k.permit(0, 0, 0, 0, 4), 1);
        check.is("up to yesterday, now", k.countsAs(0, 0), Moves.VISITOR);
        check.refusesState("a third of the day gone by", () -> k.permit(0, 0, 0, 0, 0));
    }

    private static void homeHasTwo(Check check) {
        KerbHours k = new KerbHours();
        k.car(3, Moves.RESIDENT);
        check.is("the first", k.permit(0, 0, 4, 7, 7), 0);
        check.is("the second", k.permit(0, 0, 4, 7, 7), 1);
        check.refusesState("a third", () -> k.permit(0, 0, 4, 7, 7));
        check.is("of another home", k.permit(0, 0, 5, 7, 7), 2);
        check.is("on the day ahead", k.permit(0, 0, 4, 6, 6), 3);
        check.is("on the day behind", k.permit(0, 0, 4, 8, 8), 4);
    }

    /** Days 10 to 20 and 15 to 30 are told: 15 to 20 have two, the others one at most. */
    private static void homeHasTwoOnEachOfItsDays(Check check) {
        int[][] refused = {{20, 40}, {0, 15}, {0, 520}, {17, 18}, {15, 15}, {20, 20}, {10, 20}, {15, 30}};
        int[][] given = {{21, 40}, {0, 14}, {31, 520}, {0, 9}, {14, 14}, {21, 21}};
        for (boolean isLaterFirst : new boolean[] {false, true}) {
            for (int[] days : refused) {
                KerbHours k = homeOfTwoPermits(isLaterFirst);
                String call = "a third from " + days[0] + " to " + days[1];
                check.refusesState(call, () -> k.permit(0, 0, 4, days[0], days[1]));
            }
            for (int[] days : given) {
                KerbHours k = homeOfTwoPermits(isLaterFirst);
                check.is("a second from " + days[0] + " to " + days[1], k.permit(0, 0, 4, days[0], days[1]), 2);
            }
        }
    }

    /** What counts is how many there are on one day, not how many days of others a permit meets. */
    private static void homeHasMoreThanTwoOnOtherDays(Check check) {
        KerbHours k = new KerbHours();
        k.car(3, Moves.RESIDENT);
        for (int i = 0; i < 4; i++) {
            check.is("days " + i * 10 + " to " + (i * 10 + 9), k.permit(0, 0, 4, i * 10, i * 10 + 9), i);
        }
        check.is("a second one over all of them", k.permit(0, 0, 4, 0, 520), 4);
        check.refusesState("a third on one of their days", () -> k.permit(0, 0, 4, 39, 39));
        check.is("a second on the day behind them", k.permit(0, 0, 4, 40, 40), 5);
    }

    private static KerbHours homeOfTwoPermits(boolean isLaterFirst) {
        KerbHours k = new KerbHours();
        k.car(3, Moves.RESIDENT);
        if (isLaterFirst) {
            k.permit(0, 0, 4, 15, 30);
        }
        k.permit(0, 0, 4, 10, 20);
        if (!isLaterFirst) {
            k.permit(0, 0, 4, 15, 30);
        }
        return k;
    }

    private static void ofWhateverStreet(Check check) {
        KerbHours k = new KerbHours();
        k.car(3, Moves.RESIDENT);
        k.car(3, KerbHours.TAXI);
        k.permit(0, 0, 4, 7, 7);
        k.permit(1, 1, 4, 7, 7);
        check.refusesState("a third, of a third street", () -> k.permit(0, 2, 4, 7, 7));
        check.refusesState("a third, of the first street", () -> k.permit(1, 0, 4, 7, 7));
    }

    private static void takesItsLength(Check check) {
        for (int length = 3; length <= 12; length++) {
            KerbHours k = new KerbHours();
            Moves.parked(k, length, Moves.VISITOR, 2, 20);
            check.is("taken by " + length, k.streetIs(2, 1), length);
            check.is("taken of another street", k.streetIs(1, 1), 0);
            for (int metre = 19; metre <= 32; metre++) {
                k.block(2, metre, true);
                boolean isTaken = metre >= 20 && metre < 20 + length;
                check.is("metre " + metre + " by " + length, k.judge(0), isTaken ? KerbHours.BLOCKED : KerbHours.FINE);
                k.block(2, metre, false);
            }
        }
    }

    private static void noMetreByTwo(Check check) {
        KerbHours k = new KerbHours();
        Moves.parked(k, 5, Moves.VISITOR, 0, 20);
        k.car(12, Moves.VISITOR);
        k.car(3, Moves.VISITOR);
        check.refusesState("on its metres", () -> k.park(2, 0, 21));
        check.refusesState("at its first metre", () -> k.park(2, 0, 20));
        check.refusesState("at its last metre", () -> k.park(2, 0, 24));
        check.refusesState("up to its first metre", () -> k.park(2, 0, 18));
        check.refusesState("round it", () -> k.park(1, 0, 15));
        check.accepts("the same metres of another street", () -> k.park(2, 1, 21));
        k.leave(0);
        check.accepts("its metres, when it has left", () -> k.park(1, 0, 15));
    }

    private static void oneMetreBetween(Check check) {
        for (int length = 3; length <= 12; length++) {
            KerbHours k = new KerbHours();
            Moves.parked(k, 5, Moves.VISITOR, 0, 20);
            int car = k.car(length, Moves.VISITOR);
            int ahead = 20 - length;
            check.refusesState("none between, behind it", () -> k.park(car, 0, 25));
            check.accepts("one between, behind it", () -> k.park(car, 0, 26));
            k.leave(car);
            check.refusesState("none between, ahead of it", () -> k.park(car, 0, ahead));
            check.accepts("one between, ahead of it", () -> k.park(car, 0, ahead - 1));
            check.is("taken by both", k.streetIs(0, 1), 5 + length);
        }
    }

    private static void onABlockedOne(Check check) {
        KerbHours k = new KerbHours();
        k.block(0, 5, true);
        k.car(3, Moves.VISITOR);
        check.accepts("park on it", () -> k.park(0, 0, 3));
        check.is("judge", k.judge(0), KerbHours.BLOCKED);
        check.is("taken", k.streetIs(0, 1), 3);
        check.is("look", k.look(0), 1);
    }

    private static void standsTillItLeaves(Check check) {
        KerbHours k = new KerbHours();
        k.car(3, Moves.VISITOR);
        check.is("ahead of it", k.judge(0), Moves.NONE);
        k.park(0, 0, 0);
        check.is("at once", k.judge(0), KerbHours.FINE);
        Moves.passDays(k, 10);
        check.is("for ten days", k.judge(0), KerbHours.FINE);
        check.is("its metres for ten days", k.streetIs(0, 1), 3);
        k.leave(0);
        check.is("behind it", k.judge(0), Moves.NONE);
        check.is("its metres behind it", k.streetIs(0, 1), 0);
        k.park(0, 0, 0);
        k.leave(0);
        check.is("left in the quarter in which it parked", k.judge(0), Moves.NONE);
    }

    private static void hasStood(Check check) {
        KerbHours k = new KerbHours();
        Moves.withStay(k, 4, 0, 0, 59);
        k.car(3, Moves.VISITOR);
        k.pass(30);
        k.park(0, 0, 0);
        k.pass(5);
        check.is("5 quarters by 4", k.judge(0), KerbHours.FINE);
        k.pass(1);
        check.is("6 quarters by 4", k.judge(0), KerbHours.OVERSTAYED);
        check.is("leave", k.leave(0), 6);
        k.park(0, 0, 0);
        check.is("parked anew", k.judge(0), KerbHours.FINE);
        check.is("left at once", k.leave(0), 0);
        k.park(0, 0, 0);
        k.pass(1);
        check.is("left behind 1", k.leave(0), 1);
    }

    /** Between the cars there are 6, 8, 7 and 13 metres, those that have to stay free not with them. */
    private static void gapIsWhereItCanPark(Check check) {
        for (int length = 3; length <= 12; length++) {
            KerbHours k = new KerbHours();
            Moves.parked(k, 4, Moves.VISITOR, 0, 7);
            Moves.parked(k, 4, Moves.VISITOR, 0, 21);
            Moves.parked(k, 12, Moves.VISITOR, 0, 34);
            int car = k.car(length, Moves.VISITOR);
            int gap = k.gap(0, length);
            int due = length <= 6 ? 0 : length <= 8 ? 12 : 47;
            check.is("gap of " + length, gap, due);
            for (int metre = 0; metre < gap; metre++) {
                int lower = metre;
                check.refusesState("park at " + metre + ", below the gap", () -> k.park(car, 0, lower));
            }
            check.accepts("park in the gap", () -> k.park(car, 0, gap));
        }
    }

    private static void gapBlockedOrNot(Check check) {
        KerbHours k = new KerbHours();
        k.car(3, Moves.VISITOR);
        for (int metre = 0; metre < 60; metre++) {
            k.block(0, metre, true);
        }
        check.is("all is blocked", k.gap(0, 12), 0);
        k.park(0, 0, 0);
        check.is("all is blocked, and three are taken", k.gap(0, 12), 4);
    }
}
