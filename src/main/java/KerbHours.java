import java.util.ArrayList;

/**
 * The kerbs of four streets: signs that overlap, cars that park, permits, payments,
 * fines that are judged again, and prices that follow how much is taken.
 */
public final class KerbHours {
    public static final int NONE = -1;
    public static final int RESIDENT = 0, CARER = 1, LORRY = 2, TAXI = 3, VISITOR = 4;
    public static final int FINE = 0, BLOCKED = 1, FORBIDDEN = 2, OVERSTAYED = 3, UNPAID = 4;

    private static final int STREETS = 4, METRES = 60, HOMES = 10;
    private static final int DAY = 96, LAST_QUARTER = 49999, LAST_DAY = 520;
    private static final int WEEKDAYS = 7, ALL_WEEKDAYS = 127, ALL_USERS = 31;
    private static final int MAX_SIGNS = 30, MAX_CARS = 30, MAX_PERMITS = 40;
    private static final int MAX_PAYMENTS = 200, MAX_FINES = 60, MAX_PERMITS_OF_HOME = 2;
    private static final int SHORTEST = 3, LONGEST = 12, LONGEST_STAY = 96;
    private static final int LATEST_PAYMENT = 96, LONGEST_PAYMENT = 96, LONGEST_PASS = 96;
    private static final int NOTICE_DAYS = 3, GRACE = 1, TOWING_DEBT = 200;
    private static final int FIRST_PRICE = 4, LOWEST_PRICE = 0, HIGHEST_PRICE = 20;
    private static final int ALL_TAKEN = METRES * DAY, HUNDREDTHS = 100, FULL = 80, EMPTY = 40;

    private final ArrayList<Street> streets = new ArrayList<>();
    private final ArrayList<Sign> signs = new ArrayList<>();
    private final ArrayList<Car> cars = new ArrayList<>();
    private final ArrayList<Permit> permits = new ArrayList<>();
    private final ArrayList<Payment> payments = new ArrayList<>();
    private final ArrayList<Fine> fines = new ArrayList<>();
    private When nextWhen = new When();
    private int now = 0;

    public KerbHours() {
        for (int i = 0; i < STREETS; i++) {
            streets.add(new Street());
        }
    }

    // ---- kerbs and signs

    public boolean block(int street, int metre, boolean is) throws IndexOutOfBoundsException {
        Street kerb = streetOf(street);
        needMetre(metre);
        boolean was = kerb.isBlocked(metre);
        kerb.setBlocked(metre, is);
        return was;
    }

    public void times(int weekdays, int from, int to) throws IllegalArgumentException {
        need(isIn(weekdays, 1, ALL_WEEKDAYS) && isIn(from, 0, DAY - 1) && isIn(to, from + 1, DAY));
        nextWhen.weekdays = weekdays;
        nextWhen.fromQuarter = from;
        nextWhen.toQuarter = to;
    }

    public void dates(int from, int to) throws IllegalArgumentException {
        need(isIn(from, 0, LAST_DAY) && isIn(to, from, LAST_DAY));
        nextWhen.fromDay = from;
        nextWhen.toDay = to;
    }

    public int sign(int street, int from, int to, int users, int stay, boolean hasFee, boolean isTemporary)
            throws IndexOutOfBoundsException, IllegalArgumentException, IllegalStateException {
        streetOf(street);
        needMetre(from);
        needMetre(to);
        need(to >= from && isIn(users, 0, ALL_USERS) && isIn(stay, 0, LONGEST_STAY));
        needState(signs.size() < MAX_SIGNS);
        Sign told = new Sign(signs.size(), now, nextWhen);
        told.setPlace(street, from, to);
        told.setTerms(users, stay, hasFee, isTemporary);
        signs.add(told);
        nextWhen = new When();
        return told.number;
    }

    public void takeDown(int sign) throws IndexOutOfBoundsException, IllegalStateException {
        if (!isIndex(sign, signs.size())) {
            throw new IndexOutOfBoundsException("no such sign");
        }
        Sign taken = signs.get(sign);
        needState(taken.downAt == NONE);
        taken.downAt = now;
    }

    public int rule(int street, int metre, int quarter) throws IndexOutOfBoundsException, IllegalArgumentException {
        streetOf(street);
        needMetre(metre);
        need(isIn(quarter, 0, LAST_QUARTER));
        Sign sign = signThatCounts(street, metre, quarter);
        return sign == null ? NONE : sign.number;
    }

    public int ruleAnew(int street, int metre, int quarter) throws IndexOutOfBoundsException, IllegalArgumentException {
        streetOf(street);
        needMetre(metre);
        need(isIn(quarter, 0, LAST_QUARTER));
        for (int i = 0; i < signs.size(); i++) {
            Sign sign = signs.get(i);
            if (sign.holdsAt(street, metre, quarter) && !isLeftOut(sign, metre, quarter)) {
                return sign.number;
            }
        }
        return NONE;
    }

    // ---- cars and permits

    public int car(int length, int user) throws IllegalArgumentException, IllegalStateException {
        need(isIn(length, SHORTEST, LONGEST) && isIn(user, RESIDENT, VISITOR));
        needState(cars.size() < MAX_CARS);
        Car told = new Car(cars.size(), length, user);
        cars.add(told);
        return told.number;
    }

    public int permit(int car, int street, int home, int from, int to)
            throws IndexOutOfBoundsException, IllegalArgumentException, IllegalStateException {
        Car holder = carOf(car);
        streetOf(street);
        if (!isIndex(home, HOMES)) {
            throw new IndexOutOfBoundsException("no such home");
        }
        need(isIn(from, 0, LAST_DAY) && isIn(to, from, LAST_DAY));
        needState(permits.size() < MAX_PERMITS && !isHomeFull(home, from, to));
        permits.add(new Permit(holder.number, street, home, from, to));
        return permits.size() - 1;
    }

    public int hand(int permit, int car) throws IndexOutOfBoundsException {
        if (!isIndex(permit, permits.size())) {
            throw new IndexOutOfBoundsException("no such permit");
        }
        Permit handed = permits.get(permit);
        Car holder = carOf(car);
        int had = handed.car;
        handed.car = holder.number;
        return had;
    }

    public int countsAs(int car, int street) throws IndexOutOfBoundsException {
        Car asked = carOf(car);
        streetOf(street);
        return userOf(asked, street, now);
    }

    public void park(int car, int street, int metre) throws IndexOutOfBoundsException, IllegalStateException {
        Car parker = carOf(car);
        Street kerb = streetOf(street);
        needMetre(metre);
        needState(parker.stand == null && isGap(street, metre, parker.length));
        parker.stand = new Stand(parker, street, metre, now);
        kerb.taken += parker.length;
    }

    public int leave(int car) throws IndexOutOfBoundsException, IllegalStateException {
        Car leaver = carOf(car);
        Stand stand = leaver.stand;
        if (stand == null) {
            throw new IllegalStateException("it does not stand");
        }
        endStand(stand);
        return now - stand.since;
    }

    public int gap(int street, int length) throws IndexOutOfBoundsException, IllegalArgumentException {
        streetOf(street);
        need(isIn(length, SHORTEST, LONGEST));
        for (int metre = 0; metre < METRES; metre++) {
            if (isGap(street, metre, length)) {
                return metre;
            }
        }
        return NONE;
    }

    // ---- payments, looks, fines

    public int pay(int car, int street, int from, int quarters)
            throws IndexOutOfBoundsException, IllegalArgumentException, IllegalStateException {
        Car payer = carOf(car);
        Street kerb = streetOf(street);
        need(isIn(from, Math.max(0, now - LATEST_PAYMENT), now) && isIn(quarters, 1, LONGEST_PAYMENT));
        needState(payments.size() < MAX_PAYMENTS);
        payments.add(new Payment(payer.number, street, from, quarters));
        int cost = quarters * kerb.price;
        kerb.cost += cost;
        return cost;
    }

    public int judge(int car) throws IndexOutOfBoundsException {
        Stand stand = carOf(car).stand;
        return stand == null ? NONE : judgementOf(stand, now, isOnBlocked(stand));
    }

    public int look(int street) throws IndexOutOfBoundsException {
        Street kerb = streetOf(street);
        int before = kerb.fines;
        for (int i = 0; i < cars.size(); i++) {
            Stand stand = cars.get(i).stand;
            if (stand != null && stand.street == street) {
                lookAt(stand, kerb);
            }
        }
        return kerb.fines - before;
    }

    public boolean appeal(int fine) throws IndexOutOfBoundsException, IllegalStateException {
        Fine asked = fineOf(fine);
        needState(!asked.isAppealed && !asked.isPaid);
        // What was blocked at the look is all in the judgement given then: BLOCKED goes ahead of all others.
        boolean wasBlocked = asked.judgement == BLOCKED;
        asked.isAppealed = true;
        asked.isTakenBack = judgementOf(asked.stand, asked.quarter, wasBlocked) == FINE;
        return asked.isTakenBack;
    }

    public int payFine(int fine) throws IndexOutOfBoundsException, IllegalStateException {
        Fine paid = fineOf(fine);
        needState(paid.isOpen());
        paid.isPaid = true;
        return paid.amount();
    }

    public int fine(int fine, int what) throws IndexOutOfBoundsException, IllegalArgumentException {
        Fine asked = fineOf(fine);
        switch (what) {
            case 0: return asked.stand.car.number;
            case 1: return asked.stand.street;
            case 2: return asked.quarter;
            case 3: return asked.judgement;
            case 4: return asked.isTakenBack ? 1 : 0;
            case 5: return asked.isPaid ? 1 : 0;
            default: throw new IllegalArgumentException("no such fact of a fine");
        }
    }

    public int debt(int car) throws IndexOutOfBoundsException {
        return debtOf(carOf(car));
    }

    public int tow(int car) throws IndexOutOfBoundsException, IllegalStateException {
        Car towed = carOf(car);
        Stand stand = towed.stand;
        int debt = debtOf(towed);
        if (stand == null || debt < TOWING_DEBT) {
            throw new IllegalStateException("it does not stand, or owes too little");
        }
        endStand(stand);
        return debt;
    }

    // ---- prices and time

    public int streetIs(int street, int what) throws IndexOutOfBoundsException, IllegalArgumentException {
        Street asked = streetOf(street);
        switch (what) {
            case 0: return asked.price;
            case 1: return asked.taken;
            case 2: return asked.cost;
            case 3: return asked.fines;
            case 4: return asked.takenToday;
            default: throw new IllegalArgumentException("no such fact of a street");
        }
    }

    public int pass(int quarters) throws IllegalArgumentException, IllegalStateException {
        need(isIn(quarters, 1, LONGEST_PASS));
        needState(now + quarters <= LAST_QUARTER);
        for (int i = 0; i < quarters; i++) {
            passQuarter();
        }
        return now;
    }

    // ---- what is asked of arguments and of the state

    private static boolean isIn(int value, int low, int high) {
        return value >= low && value <= high;
    }

    private static boolean isIndex(int value, int size) {
        return value >= 0 && value < size;
    }

    private static void need(boolean isInRange) throws IllegalArgumentException {
        if (!isInRange) {
            throw new IllegalArgumentException("out of range");
        }
    }

    private static void needState(boolean isAllowed) throws IllegalStateException {
        if (!isAllowed) {
            throw new IllegalStateException("not as things are now");
        }
    }

    private static void needMetre(int metre) throws IndexOutOfBoundsException {
        if (!isIndex(metre, METRES)) {
            throw new IndexOutOfBoundsException("no such metre");
        }
    }

    private Street streetOf(int street) throws IndexOutOfBoundsException {
        if (!isIndex(street, streets.size())) {
            throw new IndexOutOfBoundsException("no such street");
        }
        return streets.get(street);
    }

    private Car carOf(int car) throws IndexOutOfBoundsException {
        if (!isIndex(car, cars.size())) {
            throw new IndexOutOfBoundsException("no such car");
        }
        return cars.get(car);
    }

    private Fine fineOf(int fine) throws IndexOutOfBoundsException {
        if (!isIndex(fine, fines.size())) {
            throw new IndexOutOfBoundsException("no such fine");
        }
        return fines.get(fine);
    }

    // ---- signs

    private Sign signThatCounts(int street, int metre, int quarter) {
        Sign first = null;
        for (int i = 0; i < signs.size(); i++) {
            Sign sign = signs.get(i);
            if (sign.holdsAt(street, metre, quarter) && (first == null || sign.goesAheadOf(first))) {
                first = sign;
            }
        }
        return first;
    }

    private boolean isLeftOut(Sign sign, int metre, int quarter) {
        for (int i = 0; i < signs.size(); i++) {
            Sign other = signs.get(i);
            if (other.holdsAt(sign.street, metre, quarter) && other.goesAheadOf(sign)) {
                return true;
            }
        }
        return false;
    }

    // ---- cars and permits

    /** A home is at its fullest on the first day, or on one on which a permit of it begins: no other is asked. */
    private boolean isHomeFull(int home, int from, int to) {
        if (permitsOf(home, from) >= MAX_PERMITS_OF_HOME) {
            return true;
        }
        for (int i = 0; i < permits.size(); i++) {
            int day = permits.get(i).from;
            if (isIn(day, from, to) && permitsOf(home, day) >= MAX_PERMITS_OF_HOME) {
                return true;
            }
        }
        return false;
    }

    private int permitsOf(int home, int day) {
        int count = 0;
        for (int i = 0; i < permits.size(); i++) {
            Permit permit = permits.get(i);
            if (permit.home == home && permit.holdsOn(day)) {
                count++;
            }
        }
        return count;
    }

    private int userOf(Car car, int street, int quarter) {
        return car.user == RESIDENT && !hasPermit(car, street, quarter / DAY) ? VISITOR : car.user;
    }

    private boolean hasPermit(Car car, int street, int day) {
        for (int i = 0; i < permits.size(); i++) {
            Permit permit = permits.get(i);
            if (permit.car == car.number && permit.street == street && permit.holdsOn(day)) {
                return true;
            }
        }
        return false;
    }

    private boolean isGap(int street, int metre, int length) {
        if (metre + length > METRES) {
            return false;
        }
        for (int i = 0; i < cars.size(); i++) {
            Stand stand = cars.get(i).stand;
            if (stand != null && stand.street == street && stand.isTooNear(metre, length)) {
                return false;
            }
        }
        return true;
    }

    private void endStand(Stand stand) {
        streetOf(stand.street).taken -= stand.car.length;
        stand.car.stand = null;
    }

    // ---- payments, looks, fines

    private boolean isOnBlocked(Stand stand) {
        Street kerb = streetOf(stand.street);
        for (int i = 0; i < stand.car.length; i++) {
            if (kerb.isBlocked(stand.metre + i)) {
                return true;
            }
        }
        return false;
    }

    private int judgementOf(Stand stand, int quarter, boolean isBlocked) {
        if (isBlocked) {
            return BLOCKED;
        }
        if (isForbidden(stand, quarter)) {
            return FORBIDDEN;
        }
        Sign sign = signThatCounts(stand.street, stand.metre, quarter);
        if (sign == null) {
            return FINE;
        }
        int stood = quarter - stand.since;
        if (sign.stay > 0 && stood > sign.stay + GRACE) {
            return OVERSTAYED;
        }
        return sign.hasFee && stood > GRACE && !isPaidFor(stand, quarter) ? UNPAID : FINE;
    }

    private boolean isForbidden(Stand stand, int quarter) {
        int user = userOf(stand.car, stand.street, quarter);
        for (int i = 0; i < stand.car.length; i++) {
            Sign sign = signThatCounts(stand.street, stand.metre + i, quarter);
            if (sign != null && !sign.letsStand(user)) {
                return true;
            }
        }
        return false;
    }

    private boolean isPaidFor(Stand stand, int quarter) {
        for (int i = 0; i < payments.size(); i++) {
            Payment payment = payments.get(i);
            if (payment.car == stand.car.number && payment.street == stand.street && payment.covers(quarter)) {
                return true;
            }
        }
        return false;
    }

    private void lookAt(Stand stand, Street kerb) {
        int judgement = judgementOf(stand, now, isOnBlocked(stand));
        int today = now / DAY;
        if (judgement == FINE || stand.finedOn == today || fines.size() >= MAX_FINES) {
            return;
        }
        fines.add(new Fine(stand, now, judgement));
        stand.finedOn = today;
        kerb.fines++;
    }

    private int debtOf(Car car) {
        int debt = 0;
        for (int i = 0; i < fines.size(); i++) {
            Fine fine = fines.get(i);
            if (fine.stand.car.number == car.number && fine.isOpen()) {
                debt += fine.amount();
            }
        }
        return debt;
    }

    // ---- prices and time

    private void passQuarter() {
        now++;
        boolean isNewDay = now % DAY == 0;
        for (int i = 0; i < streets.size(); i++) {
            Street street = streets.get(i);
            street.takenToday += street.taken;
            if (isNewDay) {
                street.beginDay();
            }
        }
    }

    /** The weekdays, quarters and days of a sign; all of them, as long as nothing else is told. */
    private static final class When {
        int weekdays = ALL_WEEKDAYS;
        int fromQuarter = 0;
        int toQuarter = DAY;
        int fromDay = 0;
        int toDay = LAST_DAY;

        boolean has(int quarter) {
            int day = quarter / DAY;
            int ofDay = quarter % DAY;
            return (weekdays >> (day % WEEKDAYS) & 1) == 1
                    && ofDay >= fromQuarter && ofDay < toQuarter
                    && day >= fromDay && day <= toDay;
        }
    }

    private static final class Sign {
        final int number;
        final int toldAt;
        final When when;
        int downAt = NONE;
        int street;
        int from;
        int to;
        int users;
        int stay;
        boolean hasFee;
        boolean isTemporary;

        Sign(int number, int toldAt, When when) {
            this.number = number;
            this.toldAt = toldAt;
            this.when = when;
        }

        void setPlace(int ofStreet, int fromMetre, int toMetre) {
            street = ofStreet;
            from = fromMetre;
            to = toMetre;
        }

        void setTerms(int forUsers, int forStay, boolean withFee, boolean temporary) {
            users = forUsers;
            stay = forStay;
            hasFee = withFee;
            isTemporary = temporary;
        }

        boolean holdsAt(int ofStreet, int metre, int quarter) {
            return street == ofStreet && metre >= from && metre <= to
                    && isUp(quarter) && isNoticed(quarter) && when.has(quarter);
        }

        private boolean isUp(int quarter) {
            return toldAt <= quarter && (downAt == NONE || downAt > quarter);
        }

        private boolean isNoticed(int quarter) {
            return !isTemporary || quarter / DAY >= toldAt / DAY + NOTICE_DAYS;
        }

        boolean goesAheadOf(Sign other) {
            if (isTemporary != other.isTemporary) {
                return isTemporary;
            }
            if (to - from != other.to - other.from) {
                return to - from < other.to - other.from;
            }
            return number > other.number;
        }

        boolean letsStand(int user) {
            return (users >> user & 1) == 1;
        }
    }

    private static final class Street {
        private final boolean[] blocked = new boolean[METRES];
        int price = FIRST_PRICE;
        int taken = 0;
        int takenToday = 0;
        int cost = 0;
        int fines = 0;

        boolean isBlocked(int metre) {
            return isIndex(metre, blocked.length) && blocked[metre];
        }

        void setBlocked(int metre, boolean is) {
            if (isIndex(metre, blocked.length)) {
                blocked[metre] = is;
            }
        }

        void beginDay() {
            int share = takenToday * HUNDREDTHS;
            if (share > ALL_TAKEN * FULL) {
                price = Math.min(price + 1, HIGHEST_PRICE);
            } else if (share < ALL_TAKEN * EMPTY) {
                price = Math.max(price - 1, LOWEST_PRICE);
            }
            takenToday = 0;
        }
    }

    private static final class Car {
        final int number;
        final int length;
        final int user;
        /** Null as long as the car does not stand. */
        Stand stand = null;

        Car(int number, int length, int user) {
            this.number = number;
            this.length = length;
            this.user = user;
        }
    }

    /** One parking of a car. A fine keeps it, to be judged again when the car is long gone. */
    private static final class Stand {
        final Car car;
        final int street;
        final int metre;
        final int since;
        /** The day on which it was fined last. */
        int finedOn = NONE;

        Stand(Car car, int street, int metre, int since) {
            this.car = car;
            this.street = street;
            this.metre = metre;
            this.since = since;
        }

        boolean isTooNear(int otherMetre, int otherLength) {
            return otherMetre <= metre + car.length && metre <= otherMetre + otherLength;
        }
    }

    private static final class Permit {
        int car;
        final int street;
        final int home;
        final int from;
        final int to;

        Permit(int car, int street, int home, int from, int to) {
            this.car = car;
            this.street = street;
            this.home = home;
            this.from = from;
            this.to = to;
        }

        boolean holdsOn(int day) {
            return day >= from && day <= to;
        }
    }

    private static final class Payment {
        final int car;
        final int street;
        final int from;
        final int quarters;

        Payment(int car, int street, int from, int quarters) {
            this.car = car;
            this.street = street;
            this.from = from;
            this.quarters = quarters;
        }

        boolean covers(int quarter) {
            return quarter >= from && quarter < from + quarters;
        }
    }

    private static final class Fine {
        final Stand stand;
        final int quarter;
        final int judgement;
        boolean isAppealed = false;
        boolean isTakenBack = false;
        boolean isPaid = false;

        Fine(Stand stand, int quarter, int judgement) {
            this.stand = stand;
            this.quarter = quarter;
            this.judgement = judgement;
        }

        boolean isOpen() {
            return !isPaid && !isTakenBack;
        }

        int amount() {
            switch (judgement) {
                case BLOCKED: return 100;
                case FORBIDDEN: return 60;
                case OVERSTAYED: return 30;
                case UNPAID: return 40;
                default: return 0;
            }
        }
    }
}
