/** Promises 9 to 15, line by line: car, permit, hand, countsAs, park, leave, gap. */
public final class CarCallsTest {
    private static final String NO_CAR = "Throws `IndexOutOfBoundsException` if there is no such car";
    private static final int MIN = Integer.MIN_VALUE, MAX = Integer.MAX_VALUE;

    static final Sentence[] SENTENCES = {
        Sentence.promise(9, "Tells a car.", CarCallsTest::carTells),
        Sentence.promise(9, "`length`: 3 to 12", CarCallsTest::carLength),
        Sentence.promise(9, "`user`: RESIDENT to VISITOR", CarCallsTest::carUser),
        Sentence.promise(9, "Returns its number.", CarCallsTest::carNumber),
        Sentence.promise(9, "Throws `IllegalArgumentException` if length or user is out of range",
                CarCallsTest::carOutOfRange),
        Sentence.promise(9, "Throws `IllegalStateException` if there are 30", CarCallsTest::carsAreThirty),
        Sentence.promise(10, "Gives a permit.", CarCallsTest::permitGives),
        Sentence.promise(10, "`from`: 0 to 520", CarCallsTest::permitFrom),
        Sentence.promise(10, "`to`: from to 520", CarCallsTest::permitTo),
        Sentence.promise(10, "Returns its number.", CarCallsTest::permitNumber),
        Sentence.promise(10, "Throws `IndexOutOfBoundsException` if there is no such car, street or home",
                CarCallsTest::permitNoCarStreetOrHome),
        Sentence.promise(10, "Throws `IllegalArgumentException` if from or to is out of range",
                CarCallsTest::permitOutOfRange),
        Sentence.promise(10, "Throws `IllegalStateException` if there are 40,", CarCallsTest::permitsAreForty),
        Sentence.promise(10, "or the home would have more than two on some day", CarCallsTest::homeIsFull),
        Sentence.promise(11, "Hands a permit to another car,", CarCallsTest::handHands),
        Sentence.promise(11, "for all its days, those gone by too.", CarCallsTest::handForAllItsDays),
        Sentence.promise(11, "Returns the car that had it.", CarCallsTest::handReturns),
        Sentence.promise(11, "Throws `IndexOutOfBoundsException` if there is no such permit or car",
                CarCallsTest::handRefused),
        Sentence.promise(12, "Returns as what user a car counts at a street now.", CarCallsTest::countsAsNow),
        Sentence.promise(12, "Throws `IndexOutOfBoundsException` if there is no such car or street",
                CarCallsTest::countsAsRefused),
        Sentence.promise(13, "Parks a car.", CarCallsTest::parkParks),
        Sentence.promise(13, "`metre`: the first one that it takes", CarCallsTest::parkMetre),
        Sentence.promise(13, "Throws `IndexOutOfBoundsException` if there is no such car, street or metre",
                CarCallsTest::parkNoCarStreetOrMetre),
        Sentence.promise(13, "Throws `IllegalStateException` if it stands already,", CarCallsTest::parkStandsAlready),
        Sentence.promise(13, "does not fit ahead of the end,", CarCallsTest::parkAheadOfTheEnd),
        Sentence.promise(13, "or is too near to another one", CarCallsTest::parkTooNear),
        Sentence.promise(14, "Lets a car leave.", CarCallsTest::leaveLeaves),
        Sentence.promise(14, "Returns how many quarters it stood.", CarCallsTest::leaveReturns),
        Sentence.promise(14, NO_CAR, CarCallsTest::leaveNoCar),
        Sentence.promise(14, "Throws `IllegalStateException` if it does not stand", CarCallsTest::leaveDoesNotStand),
        Sentence.promise(15, "Returns the lowest metre at which there is a gap.", CarCallsTest::gapIsTheLowest),
        Sentence.promise(15, "`length`: 3 to 12", CarCallsTest::gapLength),
        Sentence.promise(15, "Returns the metre; NONE without.", CarCallsTest::gapReturns),
        Sentence.promise(15, "Throws `IndexOutOfBoundsException` if there is no such street",
                CarCallsTest::gapNoStreet),
        Sentence.promise(15, "Throws `IllegalArgumentException` if length is out of range",
                CarCallsTest::gapOutOfRange),
        Sentence.term("rules, gaps, prices, fines, reasons, debts and money can be asked for.",
                CarCallsTest::askingForGapsChangesNothing),
    };

    private static final Twins BUSY = new Twins(Twins::busy);
    private static final Twins WITH_THIRTY_CARS = new Twins(k -> {
        for (int i = 0; i < 30; i++) {
            k.car(3, Moves.VISITOR);
        }
    });
    private static final Twins WITH_FORTY_PERMITS = new Twins(k -> {
        k.car(3, Moves.RESIDENT);
        k.car(3, Moves.RESIDENT);
        for (int i = 0; i < 40; i++) {
            k.permit(0, 0, i / 4, i % 4 * 10, i % 4 * 10 + 9);
        }
    });

    public static void main(String[] args) {
        Sentence.runAll("CarCallsTest", SENTENCES);
    }

    // ---- car

    private static void carTells(Check check) {
        KerbHours k = new KerbHours();
        k.car(7, KerbHours.LORRY);
        k.car(3, KerbHours.TAXI);
        check.is("user of the first", k.countsAs(0, 0), KerbHours.LORRY);
        check.is("user of the second", k.countsAs(1, 0), KerbHours.TAXI);
        check.is("it does not stand", k.judge(0), Moves.NONE);
        check.is("it owes nothing", k.debt(0), 0);
        k.park(0, 0, 0);
        check.is("length of the first", k.streetIs(0, 1), 7);
        k.park(1, 1, 0);
        check.is("length of the second", k.streetIs(1, 1), 3);
    }

    private static void carLength(Check check) {
        BUSY.refusesArgument(check, "car of 2 metres", k -> k.car(2, 0));
        BUSY.refusesArgument(check, "car of 13 metres", k -> k.car(13, 0));
        KerbHours k = new KerbHours();
        check.is("car of 3 metres", k.car(3, 0), 0);
        check.is("car of 12 metres", k.car(12, 0), 1);
    }

    private static void carUser(Check check) {
        BUSY.refusesArgument(check, "car of user -1", k -> k.car(3, -1));
        BUSY.refusesArgument(check, "car of user 5", k -> k.car(3, 5));
        KerbHours k = new KerbHours();
        check.is("car of RESIDENT", k.car(3, KerbHours.RESIDENT), 0);
        check.is("car of VISITOR", k.car(3, KerbHours.VISITOR), 1);
    }

    private static void carNumber(Check check) {
        KerbHours k = new KerbHours();
        check.is("the first", k.car(3, 0), 0);
        check.is("the second", k.car(3, 0), 1);
        check.refusesArgument("refused", () -> k.car(2, 0));
        check.is("behind a refused one", k.car(3, 0), 2);
    }

    private static void carOutOfRange(Check check) {
        int[][] wrong = {{MIN, 0}, {MAX, 0}, {0, 0}, {-3, 0}, {3, MIN}, {3, MAX}, {2, 5}, {2, 0}, {3, 5}};
        for (int[] w : wrong) {
            BUSY.refusesArgument(check, "car(" + w[0] + ", " + w[1] + ")", k -> k.car(w[0], w[1]));
            WITH_THIRTY_CARS.refusesArgument(check, "car(" + w[0] + ", " + w[1] + ") as number 30",
                    k -> k.car(w[0], w[1]));
        }
    }

    private static void carsAreThirty(Check check) {
        WITH_THIRTY_CARS.refusesState(check, "car 30", k -> k.car(3, 0));
        KerbHours k = new KerbHours();
        for (int i = 0; i < 29; i++) {
            k.car(3, 0);
        }
        check.is("car 29", k.car(3, 0), 29);
        check.refusesState("car 30", () -> k.car(3, 0));
    }

    // ---- permit and hand

    private static void permitGives(Check check) {
        KerbHours k = new KerbHours();
        k.car(3, Moves.RESIDENT);
        k.car(3, Moves.RESIDENT);
        k.permit(1, 2, 3, 1, 1);
        check.is("the day ahead", k.countsAs(1, 2), Moves.VISITOR);
        k.pass(96);
        check.is("its car and street", k.countsAs(1, 2), Moves.RESIDENT);
        check.is("another street", k.countsAs(1, 3), Moves.VISITOR);
        check.is("another car", k.countsAs(0, 2), Moves.VISITOR);
        k.permit(0, 0, 3, 1, 1);
        check.refusesState("its home is full", () -> k.permit(0, 0, 3, 1, 1));
        k.pass(96);
        check.is("the day behind", k.countsAs(1, 2), Moves.VISITOR);
    }

    private static void refusedDays(Check check, int from, int to) {
        BUSY.refusesArgument(check, "permit from " + from + " to " + to, k -> k.permit(0, 0, 5, from, to));
        WITH_FORTY_PERMITS.refusesArgument(check, "permit from " + from + " to " + to + " as number 40",
                k -> k.permit(0, 0, 5, from, to));
    }

    private static void permitFrom(Check check) {
        refusedDays(check, -1, 5);
        refusedDays(check, 521, 521);
        KerbHours k = new KerbHours();
        k.car(3, Moves.RESIDENT);
        check.is("from 0", k.permit(0, 0, 0, 0, 0), 0);
        check.is("countsAs", k.countsAs(0, 0), Moves.RESIDENT);
        check.is("from 520", k.permit(0, 0, 0, 520, 520), 1);
    }

    private static void permitTo(Check check) {
        refusedDays(check, 5, 4);
        refusedDays(check, 5, 521);
        refusedDays(check, 0, -1);
        KerbHours k = new KerbHours();
        k.car(3, Moves.RESIDENT);
        check.is("from 5 to 5", k.permit(0, 0, 0, 5, 5), 0);
        check.is("from 5 to 520", k.permit(0, 0, 0, 5, 520), 1);
        check.is("a second on 520", k.permit(0, 0, 0, 520, 520), 2);
        check.refusesState("a third on 520", () -> k.permit(0, 0, 0, 520, 520));
    }

    private static void permitNumber(Check check) {
        KerbHours k = new KerbHours();
        k.car(3, Moves.RESIDENT);
        check.is("the first", k.permit(0, 0, 0, 0, 0), 0);
        check.is("the second", k.permit(0, 0, 0, 0, 0), 1);
        check.refusesState("refused", () -> k.permit(0, 0, 0, 0, 0));
        check.is("behind a refused one", k.permit(0, 0, 1, 0, 0), 2);
    }

    private static void permitNoCarStreetOrHome(Check check) {
        int[][] wrong = {{-1, 0, 5}, {6, 0, 5}, {29, 0, 5}, {0, -1, 5}, {0, 4, 5}, {0, 0, -1}, {0, 0, 10}, {MIN, 0, 5},
                {MAX, 0, 5}, {0, MIN, 5}, {0, MAX, 5}, {0, 0, MIN}, {0, 0, MAX}};
        for (int[] w : wrong) {
            String call = "permit(" + w[0] + ", " + w[1] + ", " + w[2];
            BUSY.refusesIndex(check, call + ", 0, 0)", k -> k.permit(w[0], w[1], w[2], 0, 0));
            BUSY.refusesIndex(check, call + ", 5, 4)", k -> k.permit(w[0], w[1], w[2], 5, 4));
            WITH_FORTY_PERMITS.refusesIndex(check, call + ", 0, 521) as number 40",
                    k -> k.permit(w[0], w[1], w[2], 0, 521));
            WITH_FORTY_PERMITS.refusesIndex(check, call + ", 0, 0) as number 40",
                    k -> k.permit(w[0], w[1], w[2], 0, 0));
        }
        KerbHours k = new KerbHours();
        k.car(3, Moves.RESIDENT);
        k.car(3, Moves.RESIDENT);
        check.is("the first car, street and home", k.permit(0, 0, 0, 0, 0), 0);
        check.is("the last car, street and home", k.permit(1, 3, 9, 0, 0), 1);
    }

    private static void permitOutOfRange(Check check) {
        int[][] wrong = {{MIN, 5}, {MAX, MAX}, {0, MAX}, {0, MIN}, {-1, -1}, {-1, 521}, {521, 522}, {1, 0}};
        for (int[] w : wrong) {
            refusedDays(check, w[0], w[1]);
        }
        KerbHours k = new KerbHours();
        k.car(3, Moves.RESIDENT);
        k.permit(0, 0, 5, 0, 9);
        k.permit(0, 0, 5, 0, 9);
        check.refusesArgument("days go ahead of a full home", () -> k.permit(0, 0, 5, 5, 4));
    }

    private static void permitsAreForty(Check check) {
        WITH_FORTY_PERMITS.refusesState(check, "permit 40", k -> k.permit(0, 0, 0, 500, 500));
        KerbHours k = new KerbHours();
        k.car(3, Moves.RESIDENT);
        for (int i = 0; i < 40; i++) {
            check.is("permit " + i, k.permit(0, i % 4, i / 4, i % 4, i % 4), i);
        }
        check.refusesState("permit 40", () -> k.permit(0, 0, 0, 500, 500));
        check.is("the last one is there", k.hand(39, 0), 0);
        check.refusesIndex("no more is there", () -> k.hand(40, 0));
    }

    private static void homeIsFull(Check check) {
        BUSY.refusesState(check, "a third of the home on days 2 and 3", k -> k.permit(1, 1, 0, 2, 3));
        Twins twins = new Twins(k -> {
            k.car(3, Moves.RESIDENT);
            k.permit(0, 0, 1, 4, 6);
            k.permit(0, 1, 1, 0, 4);
        });
        twins.refusesState(check, "a third on the one day of two", k -> k.permit(0, 2, 1, 4, 4));
        twins.refusesState(check, "a third up to that day", k -> k.permit(0, 2, 1, 0, 4));
        twins.refusesState(check, "a third from that day on", k -> k.permit(0, 2, 1, 4, 520));
        twins.refusesState(check, "a third round that day", k -> k.permit(0, 2, 1, 0, 520));
        KerbHours k = new KerbHours();
        k.car(3, Moves.RESIDENT);
        k.permit(0, 0, 1, 4, 6);
        k.permit(0, 1, 1, 0, 4);
        check.is("a second up to the day ahead", k.permit(0, 2, 1, 0, 3), 2);
        check.is("a second from the day behind", k.permit(0, 2, 1, 5, 520), 3);
    }

    private static void handHands(Check check) {
        KerbHours k = new KerbHours();
        k.car(3, Moves.RESIDENT);
        k.car(3, Moves.RESIDENT);
        k.car(3, KerbHours.TAXI);
        k.permit(0, 1, 0, 0, 5);
        k.hand(0, 1);
        check.is("who had it", k.countsAs(0, 1), Moves.VISITOR);
        check.is("who has it", k.countsAs(1, 1), Moves.RESIDENT);
        check.is("not of another street", k.countsAs(1, 0), Moves.VISITOR);
        k.hand(0, 2);
        check.is("a taxi is a taxi", k.countsAs(2, 1), KerbHours.TAXI);
        check.is("who had it then", k.countsAs(1, 1), Moves.VISITOR);
        k.hand(0, 0);
        check.is("who has it again", k.countsAs(0, 1), Moves.RESIDENT);
        k.permit(0, 0, 0, 0, 5);
        check.refusesState("its home has it still", () -> k.permit(0, 0, 0, 0, 0));
    }

    private static void handForAllItsDays(Check check) {
        KerbHours k = new KerbHours();
        Moves.parked(k, 3, Moves.RESIDENT, 0, 0);
        Moves.parked(k, 3, Moves.RESIDENT, 0, 10);
        Moves.letting(k, 1 << Moves.RESIDENT, 0, 0, 59);
        k.permit(0, 0, 0, 0, 0);
        k.permit(0, 0, 0, 1, 3);
        check.is("car 1 is fined on day 0", k.look(0), 1);
        k.pass(96);
        check.is("car 1 is fined on day 1", k.look(0), 1);
        k.pass(96);
        check.is("the permit of day 0", k.hand(0, 1), 0);
        check.is("it holds on a day gone by", k.appeal(0), true);
        check.is("now, ahead of the other permit", k.countsAs(1, 0), Moves.VISITOR);
        check.is("the permit from day 1 on", k.hand(1, 1), 0);
        check.is("it holds on a day gone by too", k.appeal(1), true);
        check.is("it holds now", k.countsAs(1, 0), Moves.RESIDENT);
        check.is("it holds no longer for who had it", k.look(0), 1);
        check.is("whose fine that is", k.fine(2, 0), 0);
        k.pass(96);
        check.is("its last day", k.countsAs(1, 0), Moves.RESIDENT);
        k.pass(96);
        check.is("the day behind", k.countsAs(1, 0), Moves.VISITOR);
    }

    private static void handReturns(Check check) {
        KerbHours k = new KerbHours();
        k.car(3, Moves.RESIDENT);
        k.car(3, Moves.RESIDENT);
        k.permit(1, 1, 0, 0, 5);
        k.permit(0, 1, 0, 0, 5);
        check.is("to the same", k.hand(0, 1), 1);
        check.is("to another", k.hand(0, 0), 1);
        check.is("back", k.hand(0, 1), 0);
        check.is("the other permit", k.hand(1, 1), 0);
    }

    private static void handRefused(Check check) {
        int[][] wrong = {{-1, 0}, {3, 0}, {39, 0}, {40, 0}, {MIN, 0}, {MAX, 0}, {0, -1}, {0, 6}, {0, 29}, {0, MIN}, {0, MAX},
                {1, 6}, {2, -1}, {3, 6}};
        for (int[] w : wrong) {
            BUSY.refusesIndex(check, "hand(" + w[0] + ", " + w[1] + ")", k -> k.hand(w[0], w[1]));
        }
        WITH_FORTY_PERMITS.refusesIndex(check, "hand(40, 0) of forty", k -> k.hand(40, 0));
        KerbHours k = new KerbHours();
        k.car(3, 0);
        check.refusesIndex("hand(0, 0) of none", () -> k.hand(0, 0));
        k.car(3, 0);
        k.permit(0, 0, 0, 0, 0);
        k.permit(0, 0, 1, 0, 0);
        check.is("the first permit to the last car", k.hand(0, 1), 0);
        check.is("the last permit to the first car", k.hand(1, 0), 0);
    }

    // ---- countsAs

    private static void countsAsNow(Check check) {
        KerbHours k = new KerbHours();
        k.car(3, Moves.RESIDENT);
        k.car(3, KerbHours.CARER);
        k.permit(0, 1, 0, 1, 1);
        k.permit(1, 1, 0, 0, 520);
        check.is("on the day ahead", k.countsAs(0, 1), Moves.VISITOR);
        check.is("a carer", k.countsAs(1, 1), KerbHours.CARER);
        k.pass(96);
        check.is("on its day", k.countsAs(0, 1), Moves.RESIDENT);
        check.is("where it does not stand, nor has a permit", k.countsAs(0, 0), Moves.VISITOR);
        k.park(0, 0, 0);
        check.is("where it does not stand", k.countsAs(0, 1), Moves.RESIDENT);
        k.pass(96);
        check.is("on the day behind", k.countsAs(0, 1), Moves.VISITOR);
    }

    private static void countsAsRefused(Check check) {
        int[][] wrong = {{-1, 0}, {6, 0}, {29, 0}, {30, 0}, {MIN, 0}, {MAX, 0}, {0, -1}, {0, 4}, {0, MIN}, {0, MAX}, {6, 4}};
        for (int[] w : wrong) {
            BUSY.refusesIndex(check, "countsAs(" + w[0] + ", " + w[1] + ")", k -> k.countsAs(w[0], w[1]));
        }
        KerbHours k = new KerbHours();
        check.refusesIndex("countsAs(0, 0) without a car", () -> k.countsAs(0, 0));
        k.car(3, KerbHours.TAXI);
        k.car(3, KerbHours.LORRY);
        check.is("the first car and street", k.countsAs(0, 0), KerbHours.TAXI);
        check.is("the last car and street", k.countsAs(1, 3), KerbHours.LORRY);
    }

    // ---- park and leave

    private static void parkParks(Check check) {
        KerbHours k = new KerbHours();
        k.car(5, Moves.VISITOR);
        k.car(4, Moves.VISITOR);
        k.park(0, 3, 20);
        check.is("it stands", k.judge(0), KerbHours.FINE);
        check.is("the other one does not", k.judge(1), Moves.NONE);
        check.is("its street", k.streetIs(3, 1), 5);
        k.park(1, 3, 0);
        check.is("the other one stands too", k.judge(1), KerbHours.FINE);
        check.is("its street with two", k.streetIs(3, 1), 9);
        k.block(3, 20, true);
        check.is("the first one stands where it stood", k.judge(0), KerbHours.BLOCKED);
        check.is("the other one stands elsewhere", k.judge(1), KerbHours.FINE);
        check.is("other streets", k.streetIs(0, 1) + k.streetIs(1, 1) + k.streetIs(2, 1), 0);
    }

    private static void parkMetre(Check check) {
        KerbHours k = new KerbHours();
        Moves.parked(k, 5, Moves.VISITOR, 0, 20);
        for (int metre = 18; metre < 28; metre++) {
            k.block(0, metre, true);
            boolean isOn = metre >= 20 && metre <= 24;
            check.is("metre " + metre, k.judge(0), isOn ? KerbHours.BLOCKED : KerbHours.FINE);
            k.block(0, metre, false);
        }
    }

    private static void parkNoCarStreetOrMetre(Check check) {
        int[][] wrong = {{-1, 0, 0}, {6, 0, 0}, {29, 0, 0}, {30, 0, 0}, {MIN, 0, 0}, {MAX, 0, 0}, {1, -1, 0}, {1, 4, 0},
                {1, MIN, 0}, {1, MAX, 0}, {1, 0, -1}, {1, 0, 60}, {1, 0, MIN}, {1, 0, MAX}};
        for (int[] w : wrong) {
            BUSY.refusesIndex(check, "park(" + w[0] + ", " + w[1] + ", " + w[2] + ")", k -> k.park(w[0], w[1], w[2]));
        }
        BUSY.refusesIndex(check, "no such street, though it stands", k -> k.park(0, 4, 0));
        BUSY.refusesIndex(check, "no such metre, though it stands", k -> k.park(0, 0, 60));
        KerbHours k = new KerbHours();
        k.car(12, Moves.VISITOR);
        k.car(3, Moves.VISITOR);
        check.accepts("the first car, street and metre", () -> k.park(0, 0, 0));
        check.accepts("the last car, street and metre", () -> k.park(1, 3, 57));
    }

    private static void parkStandsAlready(Check check) {
        BUSY.refusesState(check, "where it stands", k -> k.park(0, 0, 30));
        BUSY.refusesState(check, "elsewhere on its street", k -> k.park(0, 0, 0));
        BUSY.refusesState(check, "on another street", k -> k.park(0, 1, 0));
        KerbHours k = new KerbHours();
        Moves.parked(k, 5, Moves.VISITOR, 0, 20);
        k.pass(3);
        check.refusesState("it stands", () -> k.park(0, 0, 40));
        check.is("leave", k.leave(0), 3);
        check.accepts("it has left", () -> k.park(0, 0, 40));
    }

    private static void parkAheadOfTheEnd(Check check) {
        for (int length = 3; length <= 12; length++) {
            int of = length;
            Twins twins = new Twins(k -> k.car(of, Moves.VISITOR));
            twins.refusesState(check, length + " metres, one too far", k -> k.park(0, 0, 61 - of));
            twins.refusesState(check, length + " metres at the last metre", k -> k.park(0, 0, 59));
            KerbHours k = new KerbHours();
            k.car(length, Moves.VISITOR);
            check.accepts(length + " metres up to the end", () -> k.park(0, 0, 60 - of));
            check.is("taken by " + length, k.streetIs(0, 1), length);
        }
    }

    private static void parkTooNear(Check check) {
        Twins twins = new Twins(k -> {
            Moves.parked(k, 5, Moves.VISITOR, 0, 20);
            Moves.parked(k, 5, Moves.VISITOR, 0, 30);
            k.car(3, Moves.VISITOR);
            k.car(4, Moves.VISITOR);
        });
        for (int metre : new int[] {17, 18, 20, 22, 24, 25, 27, 30, 34, 35}) {
            twins.refusesState(check, "3 metres at " + metre, k -> k.park(2, 0, metre));
        }
        twins.refusesState(check, "4 metres at 26", k -> k.park(3, 0, 26));
        for (int metre : new int[] {16, 26, 36}) {
            KerbHours k = new KerbHours();
            Moves.parked(k, 5, Moves.VISITOR, 0, 20);
            Moves.parked(k, 5, Moves.VISITOR, 0, 30);
            k.car(3, Moves.VISITOR);
            check.accepts("3 metres at " + metre, () -> k.park(2, 0, metre));
        }
    }

    private static void leaveLeaves(Check check) {
        KerbHours k = new KerbHours();
        Moves.parked(k, 5, Moves.VISITOR, 0, 0);
        Moves.parked(k, 4, Moves.VISITOR, 0, 10);
        k.leave(0);
        check.is("it does not stand", k.judge(0), Moves.NONE);
        check.is("the other one does", k.judge(1), KerbHours.FINE);
        check.is("taken", k.streetIs(0, 1), 4);
        check.is("its place is free", k.gap(0, 9), 0);
        k.block(0, 0, true);
        check.is("no fine for one that left", k.look(0), 0);
        check.accepts("it can park anew", () -> k.park(0, 1, 0));
    }

    private static void leaveReturns(Check check) {
        KerbHours k = new KerbHours();
        k.car(3, Moves.VISITOR);
        k.pass(5);
        k.park(0, 0, 0);
        check.is("at once", k.leave(0), 0);
        k.park(0, 0, 0);
        k.pass(1);
        check.is("behind 1", k.leave(0), 1);
        k.pass(9);
        k.park(0, 0, 0);
        k.pass(96);
        k.pass(96);
        check.is("behind two days", k.leave(0), 192);
    }

    private static void leaveNoCar(Check check) {
        for (int car : new int[] {-1, 6, 29, 30, MIN, MAX}) {
            BUSY.refusesIndex(check, "leave(" + car + ")", k -> k.leave(car));
        }
        KerbHours k = new KerbHours();
        check.refusesIndex("leave(0) without a car", () -> k.leave(0));
        Moves.parked(k, 3, Moves.VISITOR, 0, 0);
        Moves.parked(k, 3, Moves.VISITOR, 0, 10);
        check.is("the last car", k.leave(1), 0);
        check.is("the first car", k.leave(0), 0);
    }

    private static void leaveDoesNotStand(Check check) {
        BUSY.refusesState(check, "it has left", k -> k.leave(1));
        Twins twins = new Twins(k -> k.car(3, Moves.VISITOR));
        twins.refusesState(check, "it never stood", k -> k.leave(0));
        KerbHours k = new KerbHours();
        Moves.parked(k, 3, Moves.VISITOR, 0, 0);
        k.leave(0);
        check.refusesState("twice", () -> k.leave(0));
        check.is("taken", k.streetIs(0, 1), 0);
    }

    // ---- gap

    private static void gapIsTheLowest(Check check) {
        KerbHours k = new KerbHours();
        check.is("nothing taken", k.gap(0, 3), 0);
        Moves.parked(k, 12, Moves.VISITOR, 0, 4);
        check.is("ahead of one", k.gap(0, 3), 0);
        check.is("one too long ahead of it", k.gap(0, 4), 17);
        Moves.parked(k, 3, Moves.VISITOR, 0, 0);
        check.is("right behind two", k.gap(0, 3), 17);
        Moves.parked(k, 3, Moves.VISITOR, 0, 26);
        check.is("8 metres between them", k.gap(0, 8), 17);
        check.is("9 metres between them", k.gap(0, 9), 30);
        check.is("another street", k.gap(1, 12), 0);
    }

    private static void gapLength(Check check) {
        BUSY.refusesArgument(check, "gap of 2", k -> k.gap(0, 2));
        BUSY.refusesArgument(check, "gap of 13", k -> k.gap(0, 13));
        KerbHours k = new KerbHours();
        Moves.parked(k, 3, Moves.VISITOR, 0, 0);
        check.is("gap of 3", k.gap(0, 3), 4);
        check.is("gap of 12", k.gap(0, 12), 4);
    }

    private static void gapReturns(Check check) {
        for (int length = 9; length <= 12; length++) {
            KerbHours k = withThreeOf12();
            Moves.parked(k, length, Moves.VISITOR, 0, 39);
            int next = 40 + length;
            check.is("up to the end", k.gap(0, 60 - next), next);
            check.is("one too long", k.gap(0, 61 - next), -1);
            check.is("the longest", k.gap(0, 12), -1);
        }
        for (int length = 4; length <= 8; length++) {
            KerbHours k = withThreeOf12();
            Moves.parked(k, 12, Moves.VISITOR, 0, 39);
            Moves.parked(k, length, Moves.VISITOR, 0, 52);
            check.is("3 metres behind one of " + length, k.gap(0, 3), length == 4 ? 57 : -1);
        }
    }

    private static KerbHours withThreeOf12() {
        KerbHours k = new KerbHours();
        for (int i = 0; i < 3; i++) {
            Moves.parked(k, 12, Moves.VISITOR, 0, i * 13);
        }
        return k;
    }

    private static void gapNoStreet(Check check) {
        for (int street : new int[] {-1, 4, MIN, MAX}) {
            BUSY.refusesIndex(check, "gap(" + street + ", 3)", k -> k.gap(street, 3));
            BUSY.refusesIndex(check, "gap(" + street + ", 2)", k -> k.gap(street, 2));
            BUSY.refusesIndex(check, "gap(" + street + ", 13)", k -> k.gap(street, 13));
        }
        check.is("the first street", new KerbHours().gap(0, 12), 0);
        check.is("the last street", new KerbHours().gap(3, 12), 0);
    }

    private static void gapOutOfRange(Check check) {
        for (int length : new int[] {0, -1, 14, 60, 61, MIN, MAX}) {
            BUSY.refusesArgument(check, "gap of " + length, k -> k.gap(3, length));
        }
    }

    private static void askingForGapsChangesNothing(Check check) {
        BUSY.isUnchangedBy(check, "countsAs", k -> k.countsAs(0, 0));
        BUSY.isUnchangedBy(check, "gap", k -> k.gap(0, 12));
        BUSY.isUnchangedBy(check, "gap of another street", k -> k.gap(3, 3));
    }
}
