/** Promises 2 to 8, line by line: block, times, dates, sign, takeDown, rule, ruleAnew. */
public final class SignCallsTest {
    private static final String NO_STREET_OR_METRE =
            "Throws `IndexOutOfBoundsException` if there is no such street or metre";
    private static final String NO_QUARTER = "Throws `IllegalArgumentException` if quarter is out of range";
    private static final int MIN = Integer.MIN_VALUE, MAX = Integer.MAX_VALUE;

    static final Sentence[] SENTENCES = {
        Sentence.promise(2, "Tells whether a metre is blocked.", SignCallsTest::blockTells),
        Sentence.promise(2, "Returns whether it was.", SignCallsTest::blockReturns),
        Sentence.promise(2, NO_STREET_OR_METRE, SignCallsTest::blockRefused),
        Sentence.promise(3, "Tells the times of the next sign.", SignCallsTest::timesTell),
        Sentence.promise(3, "`weekdays`: 1 to 127: a set", SignCallsTest::timesWeekdays),
        Sentence.promise(3, "`from`: 0 to 95", SignCallsTest::timesFrom),
        Sentence.promise(3, "`to`: from and 1 to 96", SignCallsTest::timesTo),
        Sentence.promise(3, "Throws `IllegalArgumentException` if weekdays, from or to is out of range",
                SignCallsTest::timesRefused),
        Sentence.promise(4, "Tells the days of the next sign.", SignCallsTest::datesTell),
        Sentence.promise(4, "`from`: 0 to 520", SignCallsTest::datesFrom),
        Sentence.promise(4, "`to`: from to 520", SignCallsTest::datesTo),
        Sentence.promise(4, "Throws `IllegalArgumentException` if from or to is out of range",
                SignCallsTest::datesRefused),
        Sentence.promise(5, "Tells a sign.", SignCallsTest::signTells),
        Sentence.promise(5, "`to`: from to 59", SignCallsTest::signTo),
        Sentence.promise(5, "`users`: 0 to 31: a set", SignCallsTest::signUsers),
        Sentence.promise(5, "`stay`: 0 to 96", SignCallsTest::signStay),
        Sentence.promise(5, "Returns its number.", SignCallsTest::signNumber),
        Sentence.promise(5, NO_STREET_OR_METRE, SignCallsTest::signNoStreetOrMetre),
        Sentence.promise(5, "Throws `IllegalArgumentException` if to is below from, or users or stay is out of range",
                SignCallsTest::signOutOfRange),
        Sentence.promise(5, "Throws `IllegalStateException` if there are 30", SignCallsTest::signsAreThirty),
        Sentence.promise(6, "Takes a sign down.", SignCallsTest::takesDown),
        Sentence.promise(6, "Throws `IndexOutOfBoundsException` if there is no such sign", SignCallsTest::noSuchSign),
        Sentence.promise(6, "Throws `IllegalStateException` if it is down", SignCallsTest::isDown),
        Sentence.promise(7, "Returns the sign that counts at a metre and a quarter, by all that is told.",
                SignCallsTest::ruleByAllThatIsTold),
        Sentence.promise(7, "`quarter`: 0 to 49999", c -> ruleQuarter(c, KerbHours::rule)),
        Sentence.promise(7, "Returns the sign; NONE without.", c -> ruleReturns(c, KerbHours::rule)),
        Sentence.promise(7, NO_STREET_OR_METRE, c -> ruleNoStreetOrMetre(c, KerbHours::rule)),
        Sentence.promise(7, NO_QUARTER, c -> ruleNoQuarter(c, KerbHours::rule)),
        Sentence.promise(8, "Returns the same, found by leaving out all signs to which another one goes ahead.",
                SignCallsTest::ruleAnewIsTheSame),
        Sentence.promise(8, "`quarter`: 0 to 49999", c -> ruleQuarter(c, KerbHours::ruleAnew)),
        Sentence.promise(8, "Returns the sign; NONE without.", c -> ruleReturns(c, KerbHours::ruleAnew)),
        Sentence.promise(8, NO_STREET_OR_METRE, c -> ruleNoStreetOrMetre(c, KerbHours::ruleAnew)),
        Sentence.promise(8, NO_QUARTER, c -> ruleNoQuarter(c, KerbHours::ruleAnew)),
        Sentence.term("rules, gaps, prices, fines, reasons, debts and money can be asked for.",
                SignCallsTest::askingForRulesChangesNothing),
    };

    /** rule or ruleAnew: both refuse and answer alike. */
    private interface RuleCall {
        int of(KerbHours k, int street, int metre, int quarter);
    }

    private static final int[][] WRONG_PLACES = {{-1, 0}, {4, 0}, {MIN, 0}, {MAX, 0}, {0, -1}, {0, 60}, {0, MIN}, {0, MAX},
            {4, 60}};
    private static final Twins BUSY = new Twins(Twins::busy);
    private static final Twins WITH_THIRTY_SIGNS = new Twins(k -> {
        for (int i = 0; i < 30; i++) {
            Moves.plain(k, 0, 0, 30 + i);
        }
    });

    public static void main(String[] args) {
        Sentence.runAll("SignCallsTest", SENTENCES);
    }

    // ---- block

    private static void blockTells(Check check) {
        KerbHours k = new KerbHours();
        Moves.parked(k, 3, Moves.VISITOR, 1, 0);
        Moves.parked(k, 3, Moves.VISITOR, 2, 57);
        k.block(1, 2, true);
        k.block(2, 59, true);
        k.block(0, 0, true);
        k.block(1, 3, true);
        check.is("judge at the metre", k.judge(0), KerbHours.BLOCKED);
        check.is("judge at the last metre", k.judge(1), KerbHours.BLOCKED);
        k.block(1, 2, false);
        k.block(2, 59, false);
        check.is("judge at the metre, no longer blocked", k.judge(0), KerbHours.FINE);
        check.is("judge at the last metre, no longer blocked", k.judge(1), KerbHours.FINE);
        k.block(1, 0, true);
        k.block(1, 0, true);
        check.is("judge, blocked twice", k.judge(0), KerbHours.BLOCKED);
        k.block(1, 0, false);
        check.is("judge, blocked twice and freed once", k.judge(0), KerbHours.FINE);
    }

    private static void blockReturns(Check check) {
        KerbHours k = new KerbHours();
        check.is("first true", k.block(0, 0, true), false);
        check.is("true again", k.block(0, 0, true), true);
        check.is("false", k.block(0, 0, false), true);
        check.is("false again", k.block(0, 0, false), false);
        check.is("true anew", k.block(0, 0, true), false);
        check.is("the metre beside it", k.block(0, 1, false), false);
        check.is("the same metre of another street", k.block(1, 0, false), false);
        check.is("true at the last", k.block(3, 59, true), false);
        check.is("false at the last", k.block(3, 59, false), true);
    }

    private static void blockRefused(Check check) {
        for (int[] w : WRONG_PLACES) {
            String at = "block(" + w[0] + ", " + w[1];
            BUSY.refusesIndex(check, at + ", true)", k -> k.block(w[0], w[1], true));
            BUSY.refusesIndex(check, at + ", false)", k -> k.block(w[0], w[1], false));
        }
    }

    // ---- times and dates

    private static void timesTell(Check check) {
        KerbHours k = new KerbHours();
        Moves.plain(k, 0, 0, 59);
        k.times(127, 0, 1);
        k.times(2, 10, 20);
        Moves.plain(k, 1, 0, 59);
        Moves.plain(k, 2, 0, 59);
        Moves.rule(check, k, 0, 0, 0, 0);
        Moves.rule(check, k, 1, 0, 0, Moves.NONE);
        Moves.rule(check, k, 1, 0, 15, Moves.NONE);
        Moves.rule(check, k, 1, 0, 96 + 9, Moves.NONE);
        Moves.rule(check, k, 1, 0, 96 + 10, 1);
        Moves.rule(check, k, 1, 0, 96 + 20, Moves.NONE);
        Moves.rule(check, k, 2, 0, 0, 2);
    }

    private static void refusedTimes(Check check, int weekdays, int from, int to) {
        BUSY.refusesArgument(check, "times(" + weekdays + ", " + from + ", " + to + ")", k -> k.times(weekdays, from, to));
    }

    private static void timesWeekdays(Check check) {
        refusedTimes(check, 0, 0, 96);
        refusedTimes(check, 128, 0, 96);
        KerbHours k = new KerbHours();
        k.times(1, 0, 96);
        Moves.plain(k, 0, 0, 59);
        k.times(127, 0, 96);
        Moves.plain(k, 1, 0, 59);
        for (int day = 0; day < 7; day++) {
            Moves.rule(check, k, 0, 0, day * 96, day == 0 ? 0 : Moves.NONE);
            Moves.rule(check, k, 1, 0, day * 96, 1);
        }
    }

    private static void timesFrom(Check check) {
        refusedTimes(check, 127, -1, 5);
        refusedTimes(check, 127, 96, 97);
        refusedTimes(check, 127, 96, 96);
        KerbHours k = new KerbHours();
        k.times(127, 0, 5);
        Moves.plain(k, 0, 0, 59);
        k.times(127, 95, 96);
        Moves.plain(k, 1, 0, 59);
        Moves.rule(check, k, 0, 0, 0, 0);
        Moves.rule(check, k, 0, 0, 5, Moves.NONE);
        Moves.rule(check, k, 1, 0, 94, Moves.NONE);
        Moves.rule(check, k, 1, 0, 95, 1);
    }

    private static void timesTo(Check check) {
        refusedTimes(check, 127, 5, 5);
        refusedTimes(check, 127, 5, 4);
        refusedTimes(check, 127, 5, 97);
        refusedTimes(check, 127, 0, 0);
        KerbHours k = new KerbHours();
        k.times(127, 5, 6);
        Moves.plain(k, 0, 0, 59);
        k.times(127, 5, 96);
        Moves.plain(k, 1, 0, 59);
        Moves.rule(check, k, 0, 0, 5, 0);
        Moves.rule(check, k, 0, 0, 6, Moves.NONE);
        Moves.rule(check, k, 1, 0, 95, 1);
        Moves.rule(check, k, 1, 0, 96, Moves.NONE);
    }

    private static void timesRefused(Check check) {
        int[][] wrong = {{-1, 0, 1}, {MIN, 0, 1}, {MAX, 0, 1}, {256, 0, 1}, {1, MIN, 5}, {1, MAX, MIN}, {1, 0, MAX},
                {1, 0, MIN}, {1, MAX, MAX}, {0, -1, 97}};
        for (int[] w : wrong) {
            refusedTimes(check, w[0], w[1], w[2]);
        }
    }

    private static void datesTell(Check check) {
        KerbHours k = new KerbHours();
        Moves.plain(k, 0, 0, 59);
        k.dates(0, 0);
        k.dates(3, 5);
        Moves.plain(k, 1, 0, 59);
        Moves.plain(k, 2, 0, 59);
        Moves.rule(check, k, 0, 0, 0, 0);
        Moves.rule(check, k, 1, 0, 0, Moves.NONE);
        Moves.rule(check, k, 1, 0, 3 * 96, 1);
        Moves.rule(check, k, 1, 0, 6 * 96, Moves.NONE);
        Moves.rule(check, k, 2, 0, 0, 2);
    }

    private static void refusedDates(Check check, int from, int to) {
        BUSY.refusesArgument(check, "dates(" + from + ", " + to + ")", k -> k.dates(from, to));
    }

    private static void datesFrom(Check check) {
        refusedDates(check, -1, 5);
        refusedDates(check, 521, 521);
        KerbHours k = new KerbHours();
        k.dates(0, 0);
        Moves.plain(k, 0, 0, 59);
        k.dates(520, 520);
        Moves.plain(k, 1, 0, 59);
        Moves.rule(check, k, 0, 0, 95, 0);
        Moves.rule(check, k, 0, 0, 96, Moves.NONE);
        Moves.rule(check, k, 1, 0, 520 * 96 - 1, Moves.NONE);
        Moves.rule(check, k, 1, 0, 49999, 1);
    }

    private static void datesTo(Check check) {
        refusedDates(check, 5, 4);
        refusedDates(check, 5, 521);
        refusedDates(check, 0, -1);
        KerbHours k = new KerbHours();
        k.dates(5, 5);
        Moves.plain(k, 0, 0, 59);
        k.dates(5, 520);
        Moves.plain(k, 1, 0, 59);
        Moves.rule(check, k, 0, 0, 5 * 96, 0);
        Moves.rule(check, k, 0, 0, 6 * 96, Moves.NONE);
        Moves.rule(check, k, 1, 0, 49999, 1);
    }

    private static void datesRefused(Check check) {
        int[][] wrong = {{MIN, 5}, {MAX, MAX}, {0, MAX}, {0, MIN}, {MAX, MIN}, {-1, -1}, {-1, 521}, {521, 522}};
        for (int[] w : wrong) {
            refusedDates(check, w[0], w[1]);
        }
    }

    // ---- sign and takeDown

    private static void signTells(Check check) {
        KerbHours k = new KerbHours();
        Moves.parked(k, 3, KerbHours.TAXI, 2, 10);
        Moves.parked(k, 3, KerbHours.LORRY, 2, 20);
        k.sign(2, 10, 30, 1 << KerbHours.TAXI, 2, true, false);
        Moves.rule(check, k, 2, 9, 0, Moves.NONE);
        Moves.rule(check, k, 2, 10, 0, 0);
        Moves.rule(check, k, 2, 30, 0, 0);
        Moves.rule(check, k, 2, 31, 0, Moves.NONE);
        Moves.rule(check, k, 1, 10, 0, Moves.NONE);
        check.is("its users", k.judge(1), KerbHours.FORBIDDEN);
        k.pass(2);
        check.is("its fee", k.judge(0), KerbHours.UNPAID);
        k.pass(2);
        check.is("its stay", k.judge(0), KerbHours.OVERSTAYED);
    }

    private static void signTo(Check check) {
        BUSY.refusesArgument(check, "sign from 5 to 4", k -> Moves.plain(k, 0, 5, 4));
        BUSY.refusesIndex(check, "sign from 5 to 60", k -> Moves.plain(k, 0, 5, 60));
        KerbHours k = new KerbHours();
        check.is("sign from 5 to 5", Moves.plain(k, 0, 5, 5), 0);
        check.is("sign from 5 to 59", Moves.plain(k, 0, 5, 59), 1);
        Moves.rule(check, k, 0, 5, 0, 0);
        Moves.rule(check, k, 0, 6, 0, 1);
        Moves.rule(check, k, 0, 59, 0, 1);
    }

    private static void signUsers(Check check) {
        BUSY.refusesArgument(check, "sign for users -1", k -> Moves.letting(k, -1, 0, 0, 59));
        BUSY.refusesArgument(check, "sign for users 32", k -> Moves.letting(k, 32, 0, 0, 59));
        KerbHours k = new KerbHours();
        for (int user = 0; user < 5; user++) {
            Moves.parked(k, 3, user, 0, user * 4);
            Moves.parked(k, 3, user, 1, user * 4);
        }
        k.permit(0, 0, 0, 0, 0);
        k.permit(1, 1, 0, 0, 0);
        Moves.letting(k, 0, 0, 0, 59);
        Moves.letting(k, 31, 1, 0, 59);
        for (int i = 0; i < 5; i++) {
            check.is("none of the users", k.judge(2 * i), KerbHours.FORBIDDEN);
            check.is("all of the users", k.judge(2 * i + 1), KerbHours.FINE);
        }
    }

    private static void signStay(Check check) {
        BUSY.refusesArgument(check, "sign for stay -1", k -> Moves.withStay(k, -1, 0, 0, 59));
        BUSY.refusesArgument(check, "sign for stay 97", k -> Moves.withStay(k, 97, 0, 0, 59));
        KerbHours k = new KerbHours();
        Moves.parked(k, 3, Moves.VISITOR, 0, 0);
        Moves.parked(k, 3, Moves.VISITOR, 1, 0);
        check.is("sign for stay 0", Moves.withStay(k, 0, 0, 0, 59), 0);
        check.is("sign for stay 96", Moves.withStay(k, 96, 1, 0, 59), 1);
        k.pass(96);
        k.pass(1);
        check.is("97 quarters by 96", k.judge(1), KerbHours.FINE);
        k.pass(1);
        check.is("98 quarters by 96", k.judge(1), KerbHours.OVERSTAYED);
        check.is("98 quarters by any", k.judge(0), KerbHours.FINE);
    }

    private static void signNumber(Check check) {
        KerbHours k = new KerbHours();
        check.is("the first", Moves.plain(k, 3, 0, 0), 0);
        check.is("the second", k.sign(0, 59, 59, 0, 96, true, true), 1);
        k.takeDown(0);
        check.is("behind one taken down", Moves.plain(k, 3, 0, 0), 2);
        check.refusesArgument("refused", () -> Moves.plain(k, 0, 5, 4));
        check.is("behind a refused one", Moves.plain(k, 1, 0, 0), 3);
    }

    private static void signNoStreetOrMetre(Check check) {
        for (int[] w : WRONG_PLACES) {
            String call = "sign(" + w[0] + ", " + w[1];
            BUSY.refusesIndex(check, call + ", 59)", k -> Moves.plain(k, w[0], w[1], 59));
            BUSY.refusesIndex(check, call + " as the end)", k -> Moves.plain(k, w[0], 0, w[1]));
            BUSY.refusesIndex(check, call + ", 59), wrong users and stay", k -> k.sign(w[0], w[1], 59, 32, 97, true, true));
            WITH_THIRTY_SIGNS.refusesIndex(check, call + ", 59) as number 30", k -> Moves.plain(k, w[0], w[1], 59));
        }
        BUSY.refusesIndex(check, "sign from 60 to 5", k -> Moves.plain(k, 0, 60, 5));
        BUSY.refusesIndex(check, "sign from 5 to -1", k -> Moves.plain(k, 0, 5, -1));
        WITH_THIRTY_SIGNS.refusesIndex(check, "sign from 5 to -1 for users 32 as number 30",
                k -> Moves.letting(k, 32, 0, 5, -1));
    }

    private static void signOutOfRange(Check check) {
        int[][] wrong = {{59, 0, 0, 0}, {1, 0, 31, 96}, {0, 0, MIN, 0}, {0, 0, MAX, 0}, {0, 0, -1, 0}, {0, 0, 32, 0},
                {0, 0, 33, 0}, {0, 0, 64, 0}, {0, 0, 128, 0}, {0, 0, 0, MIN}, {0, 0, 0, MAX}, {0, 0, 0, -1},
                {0, 0, 0, 97}, {1, 0, 32, 97}};
        for (int[] w : wrong) {
            String call = "sign(0, " + w[0] + ", " + w[1] + ", " + w[2] + ", " + w[3] + ")";
            BUSY.refusesArgument(check, call, k -> k.sign(0, w[0], w[1], w[2], w[3], false, false));
            WITH_THIRTY_SIGNS.refusesArgument(check, call + " as number 30",
                    k -> k.sign(0, w[0], w[1], w[2], w[3], false, false));
        }
    }

    private static void signsAreThirty(Check check) {
        WITH_THIRTY_SIGNS.refusesState(check, "sign 30", k -> Moves.plain(k, 0, 0, 0));
        KerbHours k = new KerbHours();
        for (int i = 0; i < 30; i++) {
            check.is("sign " + i, Moves.plain(k, i % 4, 0, 59), i);
        }
        check.refusesState("sign 30", () -> Moves.plain(k, 0, 0, 0));
        Moves.rule(check, k, 1, 0, 0, 29);
        for (int i = 0; i < 30; i++) {
            k.takeDown(i);
        }
        check.refusesState("sign 30, all down", () -> Moves.plain(k, 0, 0, 0));
    }

    private static void takesDown(Check check) {
        KerbHours k = new KerbHours();
        Moves.plain(k, 0, 0, 59);
        Moves.plain(k, 0, 0, 59);
        Moves.plain(k, 0, 0, 59);
        k.takeDown(1);
        Moves.rule(check, k, 0, 0, 0, 2);
        k.takeDown(2);
        Moves.rule(check, k, 0, 0, 0, 0);
        k.pass(3);
        k.takeDown(0);
        Moves.rule(check, k, 0, 0, 2, 0);
        Moves.rule(check, k, 0, 0, 3, Moves.NONE);
        Moves.rule(check, k, 0, 0, 49999, Moves.NONE);
    }

    private static void noSuchSign(Check check) {
        for (int sign : new int[] {-1, 5, 29, 30, MIN, MAX}) {
            BUSY.refusesIndex(check, "takeDown(" + sign + ")", k -> k.takeDown(sign));
        }
        WITH_THIRTY_SIGNS.refusesIndex(check, "takeDown(30) of thirty", k -> k.takeDown(30));
        check.refusesIndex("takeDown(0) of none", () -> new KerbHours().takeDown(0));
        KerbHours k = new KerbHours();
        Moves.plain(k, 0, 0, 0);
        Moves.plain(k, 0, 1, 1);
        check.accepts("takeDown(0), the first", () -> k.takeDown(0));
        check.accepts("takeDown(1), the last", () -> k.takeDown(1));
    }

    private static void isDown(Check check) {
        BUSY.refusesState(check, "takeDown(3) again", k -> k.takeDown(3));
        KerbHours k = new KerbHours();
        Moves.plain(k, 0, 0, 59);
        k.pass(5);
        k.takeDown(0);
        check.refusesState("in the same quarter", () -> k.takeDown(0));
        k.pass(5);
        check.refusesState("later", () -> k.takeDown(0));
        Moves.rule(check, k, 0, 0, 4, 0);
        Moves.rule(check, k, 0, 0, 5, Moves.NONE);
        Moves.rule(check, k, 0, 0, 9, Moves.NONE);
        KerbHours other = new KerbHours();
        Moves.plain(other, 0, 0, 59);
        other.takeDown(0);
        check.refusesState("down at quarter 0", () -> other.takeDown(0));
    }

    // ---- rule and ruleAnew

    private static void ruleByAllThatIsTold(Check check) {
        KerbHours k = new KerbHours();
        check.is("nothing is told", k.rule(0, 5, 100), Moves.NONE);
        Moves.plain(k, 0, 0, 59);
        check.is("a quarter to come", k.rule(0, 5, 100), 0);
        k.pass(50);
        Moves.plain(k, 0, 5, 5);
        check.is("a quarter to come, by a later one", k.rule(0, 5, 100), 1);
        check.is("a quarter gone by", k.rule(0, 5, 49), 0);
        k.takeDown(1);
        check.is("a quarter to come, taken down", k.rule(0, 5, 100), 0);
        k.times(127, 10, 11);
        check.is("times alone are no sign", k.rule(0, 5, 100), 0);
    }

    private static void ruleQuarter(Check check, RuleCall rule) {
        BUSY.refusesArgument(check, "at -1", k -> rule.of(k, 0, 0, -1));
        BUSY.refusesArgument(check, "at 50000", k -> rule.of(k, 0, 0, 50000));
        KerbHours k = new KerbHours();
        Moves.plain(k, 0, 0, 59);
        check.is("at 0", rule.of(k, 0, 0, 0), 0);
        check.is("at 49999", rule.of(k, 0, 0, 49999), 0);
    }

    private static void ruleReturns(Check check, RuleCall rule) {
        KerbHours k = new KerbHours();
        check.is("no signs", rule.of(k, 3, 59, 0), -1);
        Moves.plain(k, 3, 0, 58);
        check.is("none of this metre", rule.of(k, 3, 59, 0), -1);
        Moves.plain(k, 3, 59, 59);
        check.is("one", rule.of(k, 3, 59, 0), 1);
        check.is("one of another metre", rule.of(k, 3, 58, 0), 0);
    }

    private static void ruleNoStreetOrMetre(Check check, RuleCall rule) {
        for (int[] w : WRONG_PLACES) {
            for (int quarter : new int[] {0, -1, 50000}) {
                BUSY.refusesIndex(check, w[0] + ", " + w[1] + ", " + quarter, k -> rule.of(k, w[0], w[1], quarter));
            }
        }
    }

    private static void ruleNoQuarter(Check check, RuleCall rule) {
        BUSY.refusesArgument(check, "at the lowest", k -> rule.of(k, 3, 59, MIN));
        BUSY.refusesArgument(check, "at the highest", k -> rule.of(k, 3, 59, MAX));
    }

    private static void ruleAnewIsTheSame(Check check) {
        KerbHours k = new KerbHours();
        Moves.temporary(k, 0, 0, 40);
        Moves.plain(k, 0, 10, 19);
        Moves.plain(k, 0, 0, 59);
        Moves.plain(k, 0, 10, 19);
        Moves.plain(k, 0, 15, 25);
        Moves.temporary(k, 0, 12, 52);
        Moves.temporary(k, 0, 20, 22);
        k.takeDown(2);
        int[][] due = {{0, -1, 0}, {10, 3, 0}, {12, 3, 5}, {15, 3, 5}, {20, 4, 6}, {25, 4, 5}, {26, -1, 5}, {53, -1, -1}};
        for (int[] d : due) {
            check.is("ruleAnew at metre " + d[0], k.ruleAnew(0, d[0], 3 * 96 - 1), d[1]);
            check.is("ruleAnew at metre " + d[0] + ", later", k.ruleAnew(0, d[0], 3 * 96), d[2]);
            check.is("rule at metre " + d[0], k.rule(0, d[0], 3 * 96 - 1), d[1]);
            check.is("rule at metre " + d[0] + ", later", k.rule(0, d[0], 3 * 96), d[2]);
        }
    }

    private static void askingForRulesChangesNothing(Check check) {
        BUSY.isUnchangedBy(check, "rule", k -> k.rule(0, 10, 200));
        BUSY.isUnchangedBy(check, "ruleAnew", k -> k.ruleAnew(0, 10, 200));
        BUSY.isUnchangedBy(check, "rule of a quarter to come", k -> k.rule(1, 10, 400));
        BUSY.isUnchangedBy(check, "ruleAnew of a quarter to come", k -> k.ruleAnew(1, 10, 400));
    }
}
