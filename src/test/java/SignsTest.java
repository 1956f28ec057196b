/** Promises 2 to 8: kerbs and signs. */
public final class SignsTest {
    private static final int ALL = 31;

    public static void main(String[] args) {
        Check check = new Check("SignsTest");
        block(check);
        timesOfOneSign(check);
        timesOutOfRange(check);
        weekdays(check);
        datesOfOneSign(check);
        datesOutOfRange(check);
        refusedSignKeepsWhatWasTold(check);
        signPlace(check);
        signRefused(check);
        signsAreThirty(check);
        takeDown(check);
        holdsFromItsQuarterOn(check);
        whichCounts(check);
        notice(check);
        ruleRefused(check);
        check.end();
    }

    private static int plain(KerbHours k, int street, int from, int to) {
        return k.sign(street, from, to, ALL, 0, false, false);
    }

    private static int temporary(KerbHours k, int street, int from, int to) {
        return k.sign(street, from, to, ALL, 0, false, true);
    }

    /** Both ways of finding the sign have to agree. */
    private static void rule(Check check, KerbHours k, int street, int metre, int quarter, int due) {
        String at = "(" + street + ", " + metre + ", " + quarter + ")";
        check.is("rule" + at, k.rule(street, metre, quarter), due);
        check.is("ruleAnew" + at, k.ruleAnew(street, metre, quarter), due);
    }

    static void passDays(KerbHours k, int days) {
        for (int i = 0; i < days; i++) {
            k.pass(96);
        }
    }

    private static void block(Check check) {
        KerbHours k = new KerbHours();
        check.is("block(0, 0, true)", k.block(0, 0, true), false);
        check.is("block(0, 0, true) again", k.block(0, 0, true), true);
        check.is("block(3, 59, true)", k.block(3, 59, true), false);
        check.is("block(0, 1, false)", k.block(0, 1, false), false);
        check.is("block(1, 0, false)", k.block(1, 0, false), false);
        check.refusesIndex("block(-1, 0)", () -> k.block(-1, 0, true));
        check.refusesIndex("block(4, 0)", () -> k.block(4, 0, true));
        check.refusesIndex("block(0, -1)", () -> k.block(0, -1, false));
        check.refusesIndex("block(0, 60)", () -> k.block(0, 60, true));
        check.is("block(0, 0, false)", k.block(0, 0, false), true);
        check.is("block(0, 0, false) again", k.block(0, 0, false), false);
        check.is("block(3, 59, false)", k.block(3, 59, false), true);
    }

    private static void timesOfOneSign(Check check) {
        KerbHours k = new KerbHours();
        k.times(127, 0, 1);
        k.times(127, 10, 20);
        plain(k, 0, 0, 59);
        rule(check, k, 0, 0, 0, KerbHours.NONE);
        rule(check, k, 0, 0, 9, KerbHours.NONE);
        rule(check, k, 0, 0, 10, 0);
        rule(check, k, 0, 0, 19, 0);
        rule(check, k, 0, 0, 20, KerbHours.NONE);
        rule(check, k, 0, 0, 96 + 9, KerbHours.NONE);
        rule(check, k, 0, 0, 96 + 10, 0);
        plain(k, 1, 0, 59);
        rule(check, k, 1, 0, 0, 1);
        rule(check, k, 1, 0, 95, 1);
        k.times(127, 95, 96);
        plain(k, 2, 0, 59);
        rule(check, k, 2, 0, 94, KerbHours.NONE);
        rule(check, k, 2, 0, 95, 2);
        rule(check, k, 2, 0, 96, KerbHours.NONE);
    }

    private static void timesOutOfRange(Check check) {
        KerbHours k = new KerbHours();
        k.times(127, 30, 40);
        int[][] wrong = {{0, 0, 1}, {-1, 0, 1}, {128, 0, 1}, {1, -1, 1}, {1, 96, 97}, {1, 5, 5}, {1, 5, 4}, {1, 0, 97},
                {1, 0, Integer.MAX_VALUE}, {1, Integer.MAX_VALUE, Integer.MIN_VALUE}, {1, Integer.MIN_VALUE, 5}};
        for (int[] w : wrong) {
            check.refusesArgument("times(" + w[0] + ", " + w[1] + ", " + w[2] + ")", () -> k.times(w[0], w[1], w[2]));
        }
        plain(k, 0, 0, 59);
        rule(check, k, 0, 0, 29, KerbHours.NONE);
        rule(check, k, 0, 0, 30, 0);
        rule(check, k, 0, 0, 39, 0);
        rule(check, k, 0, 0, 40, KerbHours.NONE);
        k.times(1, 0, 1);
        k.times(127, 0, 96);
        plain(k, 1, 0, 59);
        rule(check, k, 1, 0, 49999, 1);
    }

    private static void weekdays(Check check) {
        KerbHours k = new KerbHours();
        for (int weekday = 0; weekday < 7; weekday++) {
            k.times(1 << weekday, 0, 96);
            plain(k, 0, weekday, weekday);
        }
        k.times(1 | 64, 0, 96);
        plain(k, 1, 0, 59);
        for (int day = 0; day < 16; day++) {
            for (int weekday = 0; weekday < 7; weekday++) {
                rule(check, k, 0, weekday, day * 96 + 95, day % 7 == weekday ? weekday : KerbHours.NONE);
            }
            rule(check, k, 1, 30, day * 96, day % 7 == 0 || day % 7 == 6 ? 7 : KerbHours.NONE);
        }
    }

    private static void datesOfOneSign(Check check) {
        KerbHours k = new KerbHours();
        k.dates(0, 0);
        k.dates(3, 5);
        plain(k, 0, 0, 59);
        rule(check, k, 0, 0, 0, KerbHours.NONE);
        rule(check, k, 0, 0, 3 * 96 - 1, KerbHours.NONE);
        rule(check, k, 0, 0, 3 * 96, 0);
        rule(check, k, 0, 0, 6 * 96 - 1, 0);
        rule(check, k, 0, 0, 6 * 96, KerbHours.NONE);
        plain(k, 1, 0, 59);
        rule(check, k, 1, 0, 0, 1);
        rule(check, k, 1, 0, 49999, 1);
        k.dates(520, 520);
        k.times(127, 79, 80);
        plain(k, 2, 0, 59);
        rule(check, k, 2, 0, 519 * 96 + 79, KerbHours.NONE);
        rule(check, k, 2, 0, 49998, KerbHours.NONE);
        rule(check, k, 2, 0, 49999, 2);
    }

    private static void datesOutOfRange(Check check) {
        KerbHours k = new KerbHours();
        k.dates(7, 7);
        int[][] wrong = {{-1, 0}, {521, 521}, {5, 4}, {0, 521}, {0, -1}, {Integer.MIN_VALUE, 5}, {0, Integer.MAX_VALUE}};
        for (int[] w : wrong) {
            check.refusesArgument("dates(" + w[0] + ", " + w[1] + ")", () -> k.dates(w[0], w[1]));
        }
        plain(k, 0, 0, 59);
        rule(check, k, 0, 0, 6 * 96, KerbHours.NONE);
        rule(check, k, 0, 0, 7 * 96, 0);
        k.dates(0, 520);
        plain(k, 1, 0, 59);
        rule(check, k, 1, 0, 0, 1);
    }

    private static void refusedSignKeepsWhatWasTold(Check check) {
        KerbHours k = new KerbHours();
        k.times(2, 0, 4);
        k.dates(8, 8);
        check.refusesIndex("sign of street 4", () -> plain(k, 4, 0, 0));
        check.refusesArgument("sign from 5 to 4", () -> plain(k, 0, 5, 4));
        plain(k, 0, 0, 0);
        rule(check, k, 0, 0, 96, KerbHours.NONE);
        rule(check, k, 0, 0, 8 * 96 + 3, 0);
        rule(check, k, 0, 0, 8 * 96 + 4, KerbHours.NONE);
        rule(check, k, 0, 0, 15 * 96, KerbHours.NONE);
    }

    private static void signPlace(Check check) {
        KerbHours k = new KerbHours();
        check.is("sign(1, 10, 20)", plain(k, 1, 10, 20), 0);
        check.is("sign(2, 59, 59)", k.sign(2, 59, 59, 0, 96, true, true), 1);
        check.is("sign(3, 0, 0)", k.sign(3, 0, 0, 31, 0, true, false), 2);
        rule(check, k, 1, 9, 0, KerbHours.NONE);
        rule(check, k, 1, 10, 0, 0);
        rule(check, k, 1, 20, 0, 0);
        rule(check, k, 1, 21, 0, KerbHours.NONE);
        rule(check, k, 0, 15, 0, KerbHours.NONE);
        rule(check, k, 2, 15, 0, KerbHours.NONE);
        rule(check, k, 2, 59, 3 * 96, 1);
        rule(check, k, 3, 0, 0, 2);
        rule(check, k, 3, 1, 0, KerbHours.NONE);
    }

    private static void signRefused(Check check) {
        KerbHours k = new KerbHours();
        int[][] index = {{-1, 0, 0}, {4, 0, 0}, {0, -1, 0}, {0, 60, 60}, {0, 0, -1}, {0, 0, 60}, {0, 60, 0},
                {Integer.MIN_VALUE, 0, 0}, {0, 0, Integer.MAX_VALUE}};
        for (int[] w : index) {
            String call = "sign(" + w[0] + ", " + w[1] + ", " + w[2] + ")";
            check.refusesIndex(call, () -> plain(k, w[0], w[1], w[2]));
            check.refusesIndex(call + " with wrong users", () -> k.sign(w[0], w[1], w[2], 32, 97, true, true));
        }
        int[][] argument = {{5, 4, 0, 0}, {0, 0, -1, 0}, {0, 0, 32, 0}, {0, 0, 0, -1}, {0, 0, 0, 97}};
        for (int[] w : argument) {
            check.refusesArgument("sign(0, " + w[0] + ", " + w[1] + ", " + w[2] + ", " + w[3] + ")",
                    () -> k.sign(0, w[0], w[1], w[2], w[3], false, false));
        }
        check.is("the first sign that is not refused", plain(k, 0, 0, 59), 0);
    }

    private static void signsAreThirty(Check check) {
        KerbHours k = new KerbHours();
        for (int i = 0; i < 30; i++) {
            check.is("sign " + i, plain(k, 0, 0, 59), i);
        }
        k.takeDown(0);
        check.refusesState("sign 30", () -> plain(k, 0, 0, 59));
        check.refusesArgument("sign 30 from 5 to 4", () -> plain(k, 0, 5, 4));
        check.refusesIndex("sign 30 of street 4", () -> plain(k, 4, 5, 4));
        rule(check, k, 0, 0, 0, 29);
    }

    private static void takeDown(Check check) {
        KerbHours k = new KerbHours();
        plain(k, 0, 0, 59);
        plain(k, 0, 0, 9);
        k.pass(10);
        k.takeDown(1);
        rule(check, k, 0, 0, 9, 1);
        rule(check, k, 0, 0, 10, 0);
        rule(check, k, 0, 0, 11, 0);
        check.refusesState("takeDown(1) again", () -> k.takeDown(1));
        k.pass(5);
        check.refusesState("takeDown(1) later", () -> k.takeDown(1));
        rule(check, k, 0, 0, 12, 0);
        check.refusesIndex("takeDown(-1)", () -> k.takeDown(-1));
        check.refusesIndex("takeDown(2)", () -> k.takeDown(2));
        k.takeDown(0);
        rule(check, k, 0, 0, 14, 0);
        rule(check, k, 0, 0, 15, KerbHours.NONE);
        int both = plain(k, 1, 0, 0);
        k.takeDown(both);
        rule(check, k, 1, 0, 14, KerbHours.NONE);
        rule(check, k, 1, 0, 15, KerbHours.NONE);
        rule(check, k, 1, 0, 16, KerbHours.NONE);
    }

    private static void holdsFromItsQuarterOn(Check check) {
        KerbHours k = new KerbHours();
        k.pass(50);
        plain(k, 0, 0, 59);
        rule(check, k, 0, 0, 49, KerbHours.NONE);
        rule(check, k, 0, 0, 50, 0);
        rule(check, k, 0, 0, 49999, 0);
    }

    private static void whichCounts(Check check) {
        KerbHours k = new KerbHours();
        plain(k, 0, 0, 59);
        plain(k, 0, 10, 19);
        plain(k, 0, 15, 25);
        plain(k, 0, 16, 25);
        temporary(k, 0, 0, 30);
        temporary(k, 0, 18, 48);
        temporary(k, 0, 24, 26);
        rule(check, k, 0, 9, 0, 0);
        rule(check, k, 0, 10, 0, 1);
        rule(check, k, 0, 15, 0, 1);
        rule(check, k, 0, 16, 0, 3);
        rule(check, k, 0, 20, 0, 3);
        rule(check, k, 0, 25, 0, 3);
        rule(check, k, 0, 26, 0, 0);
        int later = 3 * 96;
        rule(check, k, 0, 10, later, 4);
        rule(check, k, 0, 18, later, 5);
        rule(check, k, 0, 25, later, 6);
        rule(check, k, 0, 31, later, 5);
        rule(check, k, 0, 49, later, 0);
    }

    private static void notice(Check check) {
        KerbHours k = new KerbHours();
        k.pass(95);
        temporary(k, 0, 0, 0);
        k.pass(1);
        temporary(k, 1, 0, 0);
        plain(k, 2, 0, 0);
        rule(check, k, 0, 0, 95, KerbHours.NONE);
        rule(check, k, 0, 0, 3 * 96 - 1, KerbHours.NONE);
        rule(check, k, 0, 0, 3 * 96, 0);
        rule(check, k, 1, 0, 4 * 96 - 1, KerbHours.NONE);
        rule(check, k, 1, 0, 4 * 96, 1);
        rule(check, k, 2, 0, 96, 2);
        passDays(k, 4);
        rule(check, k, 1, 0, 4 * 96 - 1, KerbHours.NONE);
        rule(check, k, 1, 0, 4 * 96, 1);
    }

    private static void ruleRefused(Check check) {
        KerbHours k = new KerbHours();
        plain(k, 0, 0, 59);
        int[][] index = {{-1, 0, 0}, {4, 0, 0}, {0, -1, 0}, {0, 60, 0}, {4, 0, 50000}, {0, 60, -1}};
        for (int[] w : index) {
            String at = "(" + w[0] + ", " + w[1] + ", " + w[2] + ")";
            check.refusesIndex("rule" + at, () -> k.rule(w[0], w[1], w[2]));
            check.refusesIndex("ruleAnew" + at, () -> k.ruleAnew(w[0], w[1], w[2]));
        }
        for (int quarter : new int[] {-1, 50000, Integer.MIN_VALUE, Integer.MAX_VALUE}) {
            check.refusesArgument("rule at " + quarter, () -> k.rule(0, 0, quarter));
            check.refusesArgument("ruleAnew at " + quarter, () -> k.ruleAnew(0, 0, quarter));
        }
        rule(check, k, 0, 59, 49999, 0);
    }
}
