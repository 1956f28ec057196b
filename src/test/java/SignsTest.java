/** What the terms say of kerbs, signs and the numbers of quarters and days. */
public final class SignsTest {
    static final Sentence[] SENTENCES = {
        Sentence.term("Divisions are rounded down.", SignsTest::divisions),
        Sentence.term("Time goes by quarters of an hour, from 0 on,", SignsTest::timeIsFrom0On),
        Sentence.term("to 49999;", SignsTest::quartersEndAt49999),
        Sentence.term("a day has 96, and is numbered from 0;", SignsTest::dayHas96),
        Sentence.term("the weekday of a day is its number modulo 7.", SignsTest::weekdayIsModulo7),
        Sentence.term("There are the streets 0 to 3,", SignsTest::streetsAre0To3),
        Sentence.term("each with the metres 0 to 59 of kerb;", SignsTest::metresAre0To59),
        Sentence.term("a metre may be blocked, by a hydrant or a drive, none at first.", SignsTest::noneIsBlockedAtFirst),
        Sentence.term("A sign is of a street,", SignsTest::signIsOfAStreet),
        Sentence.term("from a metre to another one, both with it;", SignsTest::bothMetresWithIt),
        Sentence.term("of a set of weekdays;", SignsTest::setOfWeekdays),
        Sentence.term("from a quarter of the day up to another one, that one not with it;", SignsTest::lastQuarterNotWithIt),
        Sentence.term("from a day to another one, both with it;", SignsTest::bothDaysWithIt),
        Sentence.term("it lets a set of users stand,", SignsTest::setOfUsers),
        Sentence.term("for a stay, so many quarters, 0 for any,", SignsTest::stayOf0IsAny),
        Sentence.term("and has a fee, or not;", SignsTest::feeOrNot),
        Sentence.term("it is temporary, or not.", SignsTest::temporaryOrNot),
        Sentence.term("Weekdays, quarters and days of the next sign are told ahead of it;", SignsTest::toldAheadOfIt),
        Sentence.term("at first, and behind each sign, they are all.", SignsTest::allAtFirst),
        Sentence.term("at first, and behind each sign, they are all.", SignsTest::allBehindEachSign),
        Sentence.term("A sign holds at a quarter, if it was told in that or ahead of it,", SignsTest::holdsFromItsQuarterOn),
        Sentence.term("and was not taken down in that or ahead of it,", SignsTest::holdsUpToItsEnd),
        Sentence.term("and its weekday, quarter and day are so;", SignsTest::weekdayQuarterAndDay),
        Sentence.term("a temporary one not on the day on which it is told,", SignsTest::notOnTheDayItIsTold),
        Sentence.term("nor on the next two.", SignsTest::notOnTheNextTwo),
        Sentence.term("a temporary one not on the day on which it is told, nor on the next two.", SignsTest::noticeByDays),
        Sentence.term("Of all signs that hold at a metre and a quarter one counts:", SignsTest::onlyThoseThatHold),
        Sentence.term("a temporary one ahead of others,", SignsTest::temporaryGoesAhead),
        Sentence.term("then that of the fewest metres,", SignsTest::fewestMetresGoAhead),
        Sentence.term("then that told last.", SignsTest::toldLastGoesAhead),
        Sentence.term("Where none counts, all may stand, for any stay, without a fee.", SignsTest::withoutASign),
    };

    private interface OfNumber {
        void call(KerbHours k, int number);
    }

    public static void main(String[] args) {
        Sentence.runAll("SignsTest", SENTENCES);
    }

    private static void divisions(Check check) {
        KerbHours k = new KerbHours();
        k.dates(1, 1);
        Moves.plain(k, 0, 0, 59);
        Moves.rule(check, k, 0, 0, 95, Moves.NONE);
        Moves.rule(check, k, 0, 0, 96, 0);
        Moves.rule(check, k, 0, 0, 191, 0);
        Moves.rule(check, k, 0, 0, 192, Moves.NONE);
        k.car(3, Moves.RESIDENT);
        k.permit(0, 0, 0, 1, 1);
        check.is("countsAs at 95", k.pass(95) == 95 ? k.countsAs(0, 0) : -1, Moves.VISITOR);
        check.is("countsAs at 96", k.pass(1) == 96 ? k.countsAs(0, 0) : -1, Moves.RESIDENT);
        check.is("countsAs at 191", k.pass(95) == 191 ? k.countsAs(0, 0) : -1, Moves.RESIDENT);
        check.is("countsAs at 192", k.pass(1) == 192 ? k.countsAs(0, 0) : -1, Moves.VISITOR);
    }

    private static void timeIsFrom0On(Check check) {
        KerbHours k = new KerbHours();
        Moves.plain(k, 0, 0, 59);
        Moves.rule(check, k, 0, 0, 0, 0);
        k.car(3, Moves.VISITOR);
        check.refusesArgument("a payment from 1 on, at 0", () -> k.pay(0, 0, 1, 1));
        check.is("a payment from 0 on, at 0", k.pay(0, 0, 0, 1), 4);
        check.is("pass(1)", k.pass(1), 1);
        check.is("pass(2)", k.pass(2), 3);
    }

    private static void quartersEndAt49999(Check check) {
        KerbHours k = new KerbHours();
        Moves.plain(k, 0, 0, 59);
        Moves.rule(check, k, 0, 0, 49999, 0);
        check.refusesArgument("rule at 50000", () -> k.rule(0, 0, 50000));
        check.refusesArgument("ruleAnew at 50000", () -> k.ruleAnew(0, 0, 50000));
    }

    private static void dayHas96(Check check) {
        KerbHours k = new KerbHours();
        k.dates(0, 0);
        Moves.plain(k, 0, 0, 59);
        Moves.rule(check, k, 0, 0, 0, 0);
        Moves.rule(check, k, 0, 0, 95, 0);
        Moves.rule(check, k, 0, 0, 96, Moves.NONE);
        k.dates(520, 520);
        Moves.plain(k, 1, 0, 59);
        Moves.rule(check, k, 1, 0, 520 * 96 - 1, Moves.NONE);
        Moves.rule(check, k, 1, 0, 520 * 96, 1);
        k.times(127, 95, 96);
        Moves.plain(k, 2, 0, 59);
        Moves.rule(check, k, 2, 0, 94, Moves.NONE);
        Moves.rule(check, k, 2, 0, 95, 2);
        Moves.rule(check, k, 2, 0, 96, Moves.NONE);
        Moves.rule(check, k, 2, 0, 191, 2);
    }

    private static void weekdayIsModulo7(Check check) {
        KerbHours k = new KerbHours();
        for (int weekday = 0; weekday < 7; weekday++) {
            k.times(1 << weekday, 0, 96);
            Moves.plain(k, 0, weekday, weekday);
        }
        for (int day : new int[] {0, 1, 5, 6, 7, 8, 13, 14, 519, 520}) {
            for (int weekday = 0; weekday < 7; weekday++) {
                Moves.rule(check, k, 0, weekday, day * 96, day % 7 == weekday ? weekday : Moves.NONE);
            }
        }
        Moves.rule(check, k, 0, 6, 7 * 96 - 1, 6);
        Moves.rule(check, k, 0, 0, 7 * 96 - 1, Moves.NONE);
        Moves.rule(check, k, 0, 0, 7 * 96, 0);
        Moves.rule(check, k, 0, 6, 7 * 96, Moves.NONE);
    }

    private static void streetsAre0To3(Check check) {
        OfNumber[] calls = {
            (k, s) -> k.block(s, 0, true), (k, s) -> Moves.plain(k, s, 0, 0), (k, s) -> k.rule(s, 0, 0),
            (k, s) -> k.ruleAnew(s, 0, 0), (k, s) -> k.permit(0, s, 0, 0, 0), (k, s) -> k.countsAs(0, s),
            (k, s) -> k.park(0, s, 0), (k, s) -> k.gap(s, 3), (k, s) -> k.pay(0, s, 0, 1), (k, s) -> k.look(s),
            (k, s) -> k.streetIs(s, 0),
        };
        onlyBetween(check, "street", calls, 3);
    }

    private static void metresAre0To59(Check check) {
        OfNumber[] calls = {
            (k, m) -> k.block(1, m, true), (k, m) -> Moves.plain(k, 1, m, 59), (k, m) -> Moves.plain(k, 1, 0, m),
            (k, m) -> k.rule(1, m, 0), (k, m) -> k.ruleAnew(1, m, 0),
        };
        onlyBetween(check, "metre", calls, 59);
        KerbHours k = new KerbHours();
        k.car(3, Moves.VISITOR);
        check.refusesIndex("park at metre 60", () -> k.park(0, 0, 60));
        check.refusesIndex("park at metre -1", () -> k.park(0, 0, -1));
        check.refusesState("metre 59 is there, but too short", () -> k.park(0, 0, 59));
        k.park(0, 0, 0);
        check.is("metre 0 taken", k.streetIs(0, 1), 3);
    }

    /** Each call stands the numbers 0 and last, and refuses those round them. */
    private static void onlyBetween(Check check, String what, OfNumber[] calls, int last) {
        for (int i = 0; i < calls.length; i++) {
            OfNumber of = calls[i];
            for (int number : new int[] {-1, last + 1, Integer.MIN_VALUE, Integer.MAX_VALUE}) {
                check.refusesIndex("call " + i + " of " + what + " " + number, () -> of.call(withCar(), number));
            }
            check.accepts("call " + i + " of " + what + " 0", () -> of.call(withCar(), 0));
            check.accepts("call " + i + " of " + what + " " + last, () -> of.call(withCar(), last));
        }
    }

    private static KerbHours withCar() {
        KerbHours k = new KerbHours();
        k.car(3, Moves.VISITOR);
        return k;
    }

    private static void noneIsBlockedAtFirst(Check check) {
        KerbHours k = new KerbHours();
        for (int street = 0; street < 4; street++) {
            for (int metre = 0; metre < 60; metre++) {
                check.is("block(" + street + ", " + metre + ")", k.block(street, metre, true), false);
            }
        }
        for (int street = 0; street < 4; street++) {
            for (int metre = 0; metre < 60; metre++) {
                check.is("block(" + street + ", " + metre + ") again", k.block(street, metre, true), true);
            }
        }
    }

    private static void signIsOfAStreet(Check check) {
        KerbHours k = new KerbHours();
        for (int street = 0; street < 4; street++) {
            Moves.plain(k, street, 30, 30);
            for (int other = 0; other < 4; other++) {
                Moves.rule(check, k, other, 30, 0, other <= street ? other : Moves.NONE);
            }
        }
    }

    private static void bothMetresWithIt(Check check) {
        KerbHours k = new KerbHours();
        Moves.plain(k, 1, 10, 20);
        Moves.rule(check, k, 1, 9, 0, Moves.NONE);
        Moves.rule(check, k, 1, 10, 0, 0);
        Moves.rule(check, k, 1, 20, 0, 0);
        Moves.rule(check, k, 1, 21, 0, Moves.NONE);
        Moves.plain(k, 2, 0, 0);
        Moves.rule(check, k, 2, 0, 0, 1);
        Moves.rule(check, k, 2, 1, 0, Moves.NONE);
        Moves.plain(k, 2, 59, 59);
        Moves.rule(check, k, 2, 58, 0, Moves.NONE);
        Moves.rule(check, k, 2, 59, 0, 2);
    }

    private static void setOfWeekdays(Check check) {
        KerbHours k = new KerbHours();
        k.times(1 | 8 | 64, 0, 96);
        Moves.plain(k, 0, 0, 59);
        boolean[] isOn = {true, false, false, true, false, false, true};
        for (int day = 0; day < 15; day++) {
            Moves.rule(check, k, 0, 0, day * 96 + 95, isOn[day % 7] ? 0 : Moves.NONE);
        }
    }

    private static void lastQuarterNotWithIt(Check check) {
        KerbHours k = new KerbHours();
        k.times(127, 10, 20);
        Moves.plain(k, 0, 0, 59);
        for (int day : new int[] {0, 1, 500}) {
            Moves.rule(check, k, 0, 0, day * 96 + 9, Moves.NONE);
            Moves.rule(check, k, 0, 0, day * 96 + 10, 0);
            Moves.rule(check, k, 0, 0, day * 96 + 19, 0);
            Moves.rule(check, k, 0, 0, day * 96 + 20, Moves.NONE);
        }
        k.times(127, 40, 41);
        Moves.plain(k, 1, 0, 59);
        Moves.rule(check, k, 1, 0, 39, Moves.NONE);
        Moves.rule(check, k, 1, 0, 40, 1);
        Moves.rule(check, k, 1, 0, 41, Moves.NONE);
    }

    private static void bothDaysWithIt(Check check) {
        KerbHours k = new KerbHours();
        k.dates(3, 5);
        Moves.plain(k, 0, 0, 59);
        Moves.rule(check, k, 0, 0, 3 * 96 - 1, Moves.NONE);
        Moves.rule(check, k, 0, 0, 3 * 96, 0);
        Moves.rule(check, k, 0, 0, 6 * 96 - 1, 0);
        Moves.rule(check, k, 0, 0, 6 * 96, Moves.NONE);
        k.dates(9, 9);
        Moves.plain(k, 1, 0, 59);
        Moves.rule(check, k, 1, 0, 9 * 96 - 1, Moves.NONE);
        Moves.rule(check, k, 1, 0, 9 * 96, 1);
        Moves.rule(check, k, 1, 0, 10 * 96 - 1, 1);
        Moves.rule(check, k, 1, 0, 10 * 96, Moves.NONE);
    }

    private static void setOfUsers(Check check) {
        for (int user = 1; user < 5; user++) {
            for (int users = 0; users < 32; users++) {
                KerbHours k = new KerbHours();
                Moves.parked(k, 3, user, 0, 10);
                Moves.letting(k, users, 0, 10, 12);
                boolean isLet = (users >> user) % 2 == 1;
                check.is("user " + user + " by " + users, k.judge(0), isLet ? KerbHours.FINE : KerbHours.FORBIDDEN);
            }
        }
    }

    private static void stayOf0IsAny(Check check) {
        KerbHours k = new KerbHours();
        Moves.parked(k, 3, Moves.VISITOR, 0, 0);
        Moves.parked(k, 3, Moves.VISITOR, 0, 10);
        Moves.parked(k, 3, Moves.VISITOR, 0, 20);
        Moves.withStay(k, 0, 0, 0, 2);
        Moves.withStay(k, 1, 0, 10, 12);
        Moves.withStay(k, 96, 0, 20, 22);
        k.pass(2);
        check.is("2 quarters by 1", k.judge(1), KerbHours.FINE);
        k.pass(1);
        check.is("3 quarters by 0", k.judge(0), KerbHours.FINE);
        check.is("3 quarters by 1", k.judge(1), KerbHours.OVERSTAYED);
        k.pass(94);
        check.is("97 quarters by 96", k.judge(2), KerbHours.FINE);
        k.pass(1);
        check.is("98 quarters by 96", k.judge(2), KerbHours.OVERSTAYED);
        Moves.passDays(k, 20);
        check.is("20 days by 0", k.judge(0), KerbHours.FINE);
    }

    private static void feeOrNot(Check check) {
        KerbHours k = new KerbHours();
        Moves.parked(k, 3, Moves.VISITOR, 0, 0);
        Moves.parked(k, 3, Moves.VISITOR, 0, 10);
        Moves.withFee(k, 0, 0, 2);
        Moves.plain(k, 0, 10, 12);
        k.pass(2);
        check.is("with a fee", k.judge(0), KerbHours.UNPAID);
        check.is("without", k.judge(1), KerbHours.FINE);
    }

    private static void temporaryOrNot(Check check) {
        KerbHours k = new KerbHours();
        Moves.temporary(k, 0, 0, 59);
        Moves.plain(k, 0, 0, 9);
        Moves.rule(check, k, 0, 0, 0, 1);
        Moves.rule(check, k, 0, 10, 0, Moves.NONE);
        Moves.rule(check, k, 0, 0, 3 * 96, 0);
    }

    private static void toldAheadOfIt(Check check) {
        KerbHours k = new KerbHours();
        k.dates(0, 1);
        k.times(1, 0, 1);
        k.times(2, 10, 20);
        k.dates(7, 9);
        Moves.plain(k, 0, 0, 59);
        Moves.rule(check, k, 0, 0, 0, Moves.NONE);
        Moves.rule(check, k, 0, 0, 96 + 10, Moves.NONE);
        Moves.rule(check, k, 0, 0, 8 * 96 + 9, Moves.NONE);
        Moves.rule(check, k, 0, 0, 8 * 96 + 10, 0);
        Moves.rule(check, k, 0, 0, 9 * 96 + 10, Moves.NONE);
        Moves.rule(check, k, 0, 0, 15 * 96 + 10, Moves.NONE);
        Moves.plain(k, 1, 0, 59);
        k.times(2, 10, 20);
        k.dates(7, 9);
        for (int quarter : new int[] {0, 8 * 96 + 10, 8 * 96 + 20, 9 * 96 + 15, 20 * 96, 49999}) {
            Moves.rule(check, k, 1, 0, quarter, 1);
        }
        KerbHours other = new KerbHours();
        other.dates(7, 9);
        other.times(2, 10, 20);
        Moves.plain(other, 0, 0, 59);
        Moves.rule(check, other, 0, 0, 96 + 10, Moves.NONE);
        Moves.rule(check, other, 0, 0, 8 * 96 + 9, Moves.NONE);
        Moves.rule(check, other, 0, 0, 8 * 96 + 10, 0);
    }

    private static void isAlways(Check check, KerbHours k, int street, int sign) {
        for (int day : new int[] {0, 1, 2, 3, 4, 5, 6, 7, 519}) {
            for (int ofDay : new int[] {0, 50, 95}) {
                Moves.rule(check, k, street, 0, day * 96 + ofDay, sign);
            }
        }
        Moves.rule(check, k, street, 0, 520 * 96, sign);
        Moves.rule(check, k, street, 0, 49999, sign);
    }

    private static void allAtFirst(Check check) {
        KerbHours k = new KerbHours();
        Moves.plain(k, 0, 0, 59);
        isAlways(check, k, 0, 0);
    }

    private static void allBehindEachSign(Check check) {
        KerbHours k = new KerbHours();
        k.times(1, 40, 41);
        k.dates(7, 7);
        Moves.plain(k, 0, 0, 59);
        Moves.plain(k, 1, 0, 59);
        isAlways(check, k, 1, 1);
        k.dates(7, 7);
        Moves.plain(k, 2, 0, 59);
        Moves.plain(k, 2, 0, 59);
        isAlways(check, k, 2, 3);
        Moves.rule(check, k, 0, 0, 7 * 96 + 40, 0);
        Moves.rule(check, k, 0, 0, 7 * 96 + 41, Moves.NONE);
    }

    private static void holdsFromItsQuarterOn(Check check) {
        KerbHours k = new KerbHours();
        Moves.plain(k, 1, 0, 59);
        Moves.rule(check, k, 1, 0, 0, 0);
        k.pass(50);
        Moves.plain(k, 0, 0, 59);
        Moves.rule(check, k, 0, 0, 49, Moves.NONE);
        Moves.rule(check, k, 0, 0, 50, 1);
        Moves.rule(check, k, 0, 0, 51, 1);
    }

    private static void holdsUpToItsEnd(Check check) {
        KerbHours k = new KerbHours();
        Moves.plain(k, 0, 0, 59);
        Moves.plain(k, 0, 0, 9);
        k.pass(10);
        k.takeDown(1);
        Moves.rule(check, k, 0, 0, 9, 1);
        Moves.rule(check, k, 0, 0, 10, 0);
        Moves.rule(check, k, 0, 0, 11, 0);
        k.pass(5);
        k.takeDown(0);
        Moves.rule(check, k, 0, 0, 14, 0);
        Moves.rule(check, k, 0, 0, 15, Moves.NONE);
        k.takeDown(Moves.plain(k, 1, 0, 0));
        Moves.rule(check, k, 1, 0, 14, Moves.NONE);
        Moves.rule(check, k, 1, 0, 15, Moves.NONE);
        Moves.rule(check, k, 1, 0, 16, Moves.NONE);
        KerbHours other = new KerbHours();
        Moves.plain(other, 0, 0, 0);
        other.takeDown(0);
        Moves.rule(check, other, 0, 0, 0, Moves.NONE);
        Moves.rule(check, other, 0, 0, 1, Moves.NONE);
    }

    /** Day 9 is of weekday 2: the sign holds there from its quarter 30 to 39 alone. */
    private static void weekdayQuarterAndDay(Check check) {
        KerbHours k = new KerbHours();
        k.times(4, 30, 40);
        k.dates(8, 10);
        Moves.plain(k, 0, 0, 59);
        Moves.rule(check, k, 0, 0, 9 * 96 + 35, 0);
        Moves.rule(check, k, 0, 0, 8 * 96 + 35, Moves.NONE);
        Moves.rule(check, k, 0, 0, 10 * 96 + 35, Moves.NONE);
        Moves.rule(check, k, 0, 0, 9 * 96 + 29, Moves.NONE);
        Moves.rule(check, k, 0, 0, 9 * 96 + 40, Moves.NONE);
        Moves.rule(check, k, 0, 0, 2 * 96 + 35, Moves.NONE);
        Moves.rule(check, k, 0, 0, 16 * 96 + 35, Moves.NONE);
    }

    private static void notOnTheDayItIsTold(Check check) {
        KerbHours k = new KerbHours();
        Moves.temporary(k, 0, 0, 0);
        Moves.plain(k, 1, 0, 0);
        Moves.rule(check, k, 0, 0, 0, Moves.NONE);
        Moves.rule(check, k, 0, 0, 95, Moves.NONE);
        Moves.rule(check, k, 1, 0, 0, 1);
        Moves.rule(check, k, 1, 0, 95, 1);
    }

    private static void notOnTheNextTwo(Check check) {
        KerbHours k = new KerbHours();
        Moves.temporary(k, 0, 0, 0);
        Moves.plain(k, 1, 0, 0);
        Moves.rule(check, k, 0, 0, 96, Moves.NONE);
        Moves.rule(check, k, 0, 0, 2 * 96, Moves.NONE);
        Moves.rule(check, k, 0, 0, 3 * 96 - 1, Moves.NONE);
        Moves.rule(check, k, 0, 0, 3 * 96, 0);
        Moves.rule(check, k, 0, 0, 4 * 96, 0);
        Moves.rule(check, k, 1, 0, 2 * 96, 1);
    }

    /** Told in the last or the first quarter of a day, it holds from the first quarter of the third one behind it. */
    private static void noticeByDays(Check check) {
        KerbHours k = new KerbHours();
        k.pass(95);
        Moves.temporary(k, 0, 0, 0);
        k.pass(1);
        Moves.temporary(k, 1, 0, 0);
        Moves.rule(check, k, 0, 0, 3 * 96 - 1, Moves.NONE);
        Moves.rule(check, k, 0, 0, 3 * 96, 0);
        Moves.rule(check, k, 1, 0, 4 * 96 - 1, Moves.NONE);
        Moves.rule(check, k, 1, 0, 4 * 96, 1);
        Moves.passDays(k, 5);
        Moves.rule(check, k, 1, 0, 4 * 96 - 1, Moves.NONE);
        Moves.rule(check, k, 1, 0, 4 * 96, 1);
    }

    private static void onlyThoseThatHold(Check check) {
        KerbHours k = new KerbHours();
        Moves.plain(k, 0, 0, 59);
        k.times(127, 0, 50);
        Moves.plain(k, 0, 10, 19);
        Moves.temporary(k, 0, 10, 10);
        Moves.plain(k, 0, 12, 12);
        k.takeDown(3);
        Moves.plain(k, 1, 11, 11);
        Moves.rule(check, k, 0, 10, 49, 1);
        Moves.rule(check, k, 0, 10, 50, 0);
        Moves.rule(check, k, 0, 12, 49, 1);
        Moves.rule(check, k, 0, 11, 49, 1);
        Moves.rule(check, k, 0, 20, 49, 0);
    }

    private static void temporaryGoesAhead(Check check) {
        KerbHours k = new KerbHours();
        Moves.temporary(k, 0, 0, 59);
        Moves.plain(k, 0, 10, 10);
        Moves.plain(k, 0, 0, 59);
        int later = 3 * 96;
        Moves.rule(check, k, 0, 10, later - 1, 1);
        Moves.rule(check, k, 0, 10, later, 0);
        Moves.rule(check, k, 0, 0, later, 0);
        Moves.plain(k, 1, 10, 10);
        Moves.temporary(k, 1, 0, 59);
        Moves.rule(check, k, 1, 10, later, 4);
    }

    private static void fewestMetresGoAhead(Check check) {
        KerbHours k = new KerbHours();
        Moves.plain(k, 0, 20, 29);
        Moves.plain(k, 0, 19, 29);
        Moves.plain(k, 0, 21, 29);
        Moves.plain(k, 0, 0, 59);
        Moves.rule(check, k, 0, 19, 0, 1);
        Moves.rule(check, k, 0, 20, 0, 0);
        Moves.rule(check, k, 0, 21, 0, 2);
        Moves.rule(check, k, 0, 30, 0, 3);
        Moves.temporary(k, 1, 20, 29);
        Moves.temporary(k, 1, 19, 29);
        Moves.temporary(k, 1, 21, 29);
        int later = 3 * 96;
        Moves.rule(check, k, 1, 19, later, 5);
        Moves.rule(check, k, 1, 20, later, 4);
        Moves.rule(check, k, 1, 21, later, 6);
        Moves.plain(k, 2, 50, 59);
        Moves.plain(k, 2, 0, 55);
        Moves.rule(check, k, 2, 55, 0, 7);
    }

    private static void toldLastGoesAhead(Check check) {
        KerbHours k = new KerbHours();
        Moves.plain(k, 0, 10, 19);
        Moves.plain(k, 0, 15, 24);
        Moves.plain(k, 0, 5, 14);
        Moves.rule(check, k, 0, 5, 0, 2);
        Moves.rule(check, k, 0, 14, 0, 2);
        Moves.rule(check, k, 0, 15, 0, 1);
        Moves.rule(check, k, 0, 19, 0, 1);
        Moves.temporary(k, 1, 0, 9);
        Moves.temporary(k, 1, 5, 14);
        Moves.rule(check, k, 1, 5, 3 * 96, 4);
        Moves.rule(check, k, 1, 4, 3 * 96, 3);
        k.takeDown(2);
        k.pass(1);
        Moves.rule(check, k, 0, 14, 1, 0);
    }

    private static void withoutASign(Check check) {
        KerbHours k = new KerbHours();
        for (int user = 0; user < 5; user++) {
            Moves.parked(k, 3, user, 0, user * 4);
        }
        k.sign(0, 20, 59, Moves.NOBODY, 1, true, false);
        k.sign(1, 0, 59, Moves.NOBODY, 1, true, false);
        k.sign(0, 0, 19, Moves.NOBODY, 1, true, true);
        for (int car = 0; car < 5; car++) {
            check.is("at once, " + car, k.judge(car), KerbHours.FINE);
        }
        Moves.passDays(k, 2);
        k.pass(95);
        for (int car = 0; car < 5; car++) {
            check.is("on the last quarter without a sign, " + car, k.judge(car), KerbHours.FINE);
        }
        check.is("look", k.look(0), 0);
        k.pass(1);
        check.is("with a sign", k.judge(0), KerbHours.FORBIDDEN);
    }
}
