/** Calls that many tests make. */
final class Moves {
    static final int ALL = 31, NOBODY = 0, DAY = 96;
    static final int NONE = KerbHours.NONE, VISITOR = KerbHours.VISITOR, RESIDENT = KerbHours.RESIDENT;

    private Moves() {
    }

    /** A sign that lets all stand, for any stay, without a fee. */
    static int plain(KerbHours k, int street, int from, int to) {
        return k.sign(street, from, to, ALL, 0, false, false);
    }

    static int temporary(KerbHours k, int street, int from, int to) {
        return k.sign(street, from, to, ALL, 0, false, true);
    }

    static int letting(KerbHours k, int users, int street, int from, int to) {
        return k.sign(street, from, to, users, 0, false, false);
    }

    static int withStay(KerbHours k, int stay, int street, int from, int to) {
        return k.sign(street, from, to, ALL, stay, false, false);
    }

    static int withFee(KerbHours k, int street, int from, int to) {
        return k.sign(street, from, to, ALL, 0, true, false);
    }

    /** A new car, parked at once. */
    static int parked(KerbHours k, int length, int user, int street, int metre) {
        int car = k.car(length, user);
        k.park(car, street, metre);
        return car;
    }

    static void passDays(KerbHours k, int days) {
        for (int i = 0; i < days; i++) {
            k.pass(DAY);
        }
    }

    /** Both ways of finding the sign have to agree. */
    static void rule(Check check, KerbHours k, int street, int metre, int quarter, int due) {
        String at = "(" + street + ", " + metre + ", " + quarter + ")";
        check.is("rule" + at, k.rule(street, metre, quarter), due);
        check.is("ruleAnew" + at, k.ruleAnew(street, metre, quarter), due);
    }
}
