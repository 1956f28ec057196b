import java.util.ArrayList;
import java.util.Comparator;
import java.util.HashSet;
import java.util.List;
import java.util.stream.Collectors;
import java.util.stream.IntStream;

/**
 * The document once more, written another way than the class: by tables of metres, days and quarters.
 * A call answers what is due, or one of the three numbers below for the exception that is due.
 */
final class PlainKerb {
    static final long INDEX = -1001, ARGUMENT = -1002, STATE = -1003, NOTHING = -1004;

    private static final class Post {
        int street, from, to, users, stay, told, down = Integer.MAX_VALUE, weekdays, quarterFrom, quarterTo, dayFrom, dayTo;
        boolean fee, temporary;
    }

    private static final class Ticket {
        int car, street, quarter, judgement, first, stood, parking;
        boolean[] blocked;
        boolean appealed, back, paid;
    }

    private static final int[] AMOUNTS = {0, 100, 60, 30, 40};

    private final boolean[][] blocked = new boolean[4][60];
    private final int[][] carAt = new int[4][60];
    private final List<Post> posts = new ArrayList<>();
    private final List<int[]> cars = new ArrayList<>();
    private final List<int[]> permits = new ArrayList<>();
    private final List<Ticket> tickets = new ArrayList<>();
    private final HashSet<String> paidQuarters = new HashSet<>();
    private final int[] price = {4, 4, 4, 4};
    private final int[] income = new int[4];
    private final int[][] takenOf = new int[4][50000];
    private final int[] firstMetre = new int[30], streetOfCar = new int[30], parkedAt = new int[30], parking = new int[30];
    private final int[] times = {127, 0, 96}, dates = {0, 520};
    private int payments = 0, now = 0;

    private static boolean out(int value, int low, int high) {
        return value < low || value > high;
    }

    private boolean noCar(int car) {
        return out(car, 0, cars.size() - 1);
    }

    private static boolean noStreet(int street) {
        return out(street, 0, 3);
    }

    private static boolean noMetre(int metre) {
        return out(metre, 0, 59);
    }

    long block(int street, int metre, boolean is) {
        if (noStreet(street) || noMetre(metre)) {
            return INDEX;
        }
        boolean was = blocked[street][metre];
        blocked[street][metre] = is;
        return was ? 1 : 0;
    }

    long times(int weekdays, int from, int to) {
        if (out(weekdays, 1, 127) || out(from, 0, 95) || out(to, from + 1, 96)) {
            return ARGUMENT;
        }
        times[0] = weekdays;
        times[1] = from;
        times[2] = to;
        return NOTHING;
    }

    long dates(int from, int to) {
        if (out(from, 0, 520) || out(to, from, 520)) {
            return ARGUMENT;
        }
        dates[0] = from;
        dates[1] = to;
        return NOTHING;
    }

    long sign(int street, int from, int to, int users, int stay, boolean fee, boolean temporary) {
        if (noStreet(street) || noMetre(from) || noMetre(to)) {
            return INDEX;
        }
        if (to < from || out(users, 0, 31) || out(stay, 0, 96)) {
            return ARGUMENT;
        }
        if (posts.size() == 30) {
            return STATE;
        }
        Post post = new Post();
        post.street = street;
        post.from = from;
        post.to = to;
        post.users = users;
        post.stay = stay;
        post.fee = fee;
        post.temporary = temporary;
        post.told = now;
        post.weekdays = times[0];
        post.quarterFrom = times[1];
        post.quarterTo = times[2];
        post.dayFrom = dates[0];
        post.dayTo = dates[1];
        posts.add(post);
        times(127, 0, 96);
        dates(0, 520);
        return posts.size() - 1;
    }

    long takeDown(int sign) {
        if (out(sign, 0, posts.size() - 1)) {
            return INDEX;
        }
        if (posts.get(sign).down != Integer.MAX_VALUE) {
            return STATE;
        }
        posts.get(sign).down = now;
        return NOTHING;
    }

    long rule(int street, int metre, int quarter) {
        if (noStreet(street) || noMetre(metre)) {
            return INDEX;
        }
        return out(quarter, 0, 49999) ? ARGUMENT : counting(street, metre, quarter);
    }

    private int counting(int street, int metre, int quarter) {
        int day = quarter / 96;
        List<Integer> holding = IntStream.range(0, posts.size()).filter(i -> {
            Post p = posts.get(i);
            boolean told = p.told <= quarter && quarter < p.down && !(p.temporary && day - p.told / 96 <= 2);
            boolean time = p.quarterFrom <= quarter - day * 96 && quarter - day * 96 < p.quarterTo;
            boolean date = p.dayFrom <= day && day <= p.dayTo && (p.weekdays / (int) Math.pow(2, day % 7)) % 2 == 1;
            return told && time && date && p.street == street && p.from <= metre && metre <= p.to;
        }).boxed().collect(Collectors.toList());
        holding.sort(Comparator.comparing((Integer i) -> !posts.get(i).temporary)
                .thenComparing(i -> posts.get(i).to - posts.get(i).from + 1).thenComparing(i -> -i));
        return holding.isEmpty() ? KerbHours.NONE : holding.get(0);
    }

    long car(int length, int user) {
        if (out(length, 3, 12) || out(user, 0, 4)) {
            return ARGUMENT;
        }
        if (cars.size() == 30) {
            return STATE;
        }
        streetOfCar[cars.size()] = -1;
        cars.add(new int[] {length, user});
        return cars.size() - 1;
    }

    long permit(int car, int street, int home, int from, int to) {
        if (noCar(car) || noStreet(street) || out(home, 0, 9)) {
            return INDEX;
        }
        if (out(from, 0, 520) || out(to, from, 520)) {
            return ARGUMENT;
        }
        int[] ofDay = new int[521];
        for (int[] p : permits) {
            for (int day = p[3]; p[2] == home && day <= p[4]; day++) {
                ofDay[day]++;
            }
        }
        if (permits.size() == 40 || IntStream.rangeClosed(from, to).anyMatch(day -> ofDay[day] > 1)) {
            return STATE;
        }
        permits.add(new int[] {car, street, home, from, to});
        return permits.size() - 1;
    }

    long hand(int permit, int car) {
        if (out(permit, 0, permits.size() - 1) || noCar(car)) {
            return INDEX;
        }
        int had = permits.get(permit)[0];
        permits.get(permit)[0] = car;
        return had;
    }

    long countsAs(int car, int street) {
        return noCar(car) || noStreet(street) ? INDEX : userAt(car, street, now);
    }

    private int userAt(int car, int street, int quarter) {
        int day = quarter / 96;
        boolean has = permits.stream().anyMatch(p -> p[0] == car && p[1] == street && !out(day, p[3], p[4]));
        int user = cars.get(car)[1];
        return user == 0 && !has ? 4 : user;
    }

    /** A car takes its metres, and the ones round it have to be free. */
    private boolean fits(int street, int metre, int length) {
        for (int m = metre - 1; m <= metre + length; m++) {
            boolean isOut = m < 0 || m > 59;
            if (isOut ? m != metre - 1 && m != metre + length : carAt[street][m] != 0) {
                return false;
            }
        }
        return metre + length <= 60;
    }

    long park(int car, int street, int metre) {
        if (noCar(car) || noStreet(street) || noMetre(metre)) {
            return INDEX;
        }
        if (streetOfCar[car] >= 0 || !fits(street, metre, cars.get(car)[0])) {
            return STATE;
        }
        for (int i = 0; i < cars.get(car)[0]; i++) {
            carAt[street][metre + i] = car + 1;
        }
        streetOfCar[car] = street;
        firstMetre[car] = metre;
        parkedAt[car] = now;
        parking[car]++;
        return NOTHING;
    }

    private void goAway(int car) {
        for (int m = 0; m < 60; m++) {
            carAt[streetOfCar[car]][m] = carAt[streetOfCar[car]][m] == car + 1 ? 0 : carAt[streetOfCar[car]][m];
        }
        streetOfCar[car] = -1;
    }

    long leave(int car) {
        if (noCar(car)) {
            return INDEX;
        }
        if (streetOfCar[car] < 0) {
            return STATE;
        }
        goAway(car);
        return now - parkedAt[car];
    }

    long gap(int street, int length) {
        if (noStreet(street)) {
            return INDEX;
        }
        if (out(length, 3, 12)) {
            return ARGUMENT;
        }
        return IntStream.range(0, 60).filter(m -> fits(street, m, length)).findFirst().orElse(-1);
    }

    long pay(int car, int street, int from, int quarters) {
        if (noCar(car) || noStreet(street)) {
            return INDEX;
        }
        if (out(from, now - 96, now) || from < 0 || out(quarters, 1, 96)) {
            return ARGUMENT;
        }
        if (payments == 200) {
            return STATE;
        }
        payments++;
        for (int i = 0; i < quarters; i++) {
            paidQuarters.add(car + " " + street + " " + (from + i));
        }
        income[street] += quarters * price[street];
        return (long) quarters * price[street];
    }

    private Ticket ticketFor(int car) {
        Ticket t = new Ticket();
        t.car = car;
        t.street = streetOfCar[car];
        t.quarter = now;
        t.first = firstMetre[car];
        t.stood = now - parkedAt[car];
        t.parking = parking[car];
        t.blocked = blocked[t.street].clone();
        t.judgement = judged(t);
        return t;
    }

    private int judged(Ticket t) {
        int length = cars.get(t.car)[0];
        int user = userAt(t.car, t.street, t.quarter);
        if (IntStream.range(t.first, t.first + length).anyMatch(m -> t.blocked[m])) {
            return 1;
        }
        for (int m = t.first; m < t.first + length; m++) {
            int sign = counting(t.street, m, t.quarter);
            if (sign >= 0 && (posts.get(sign).users / (int) Math.pow(2, user)) % 2 == 0) {
                return 2;
            }
        }
        int sign = counting(t.street, t.first, t.quarter);
        if (sign >= 0 && posts.get(sign).stay != 0 && t.stood - 1 > posts.get(sign).stay) {
            return 3;
        }
        boolean paid = paidQuarters.contains(t.car + " " + t.street + " " + t.quarter);
        return sign >= 0 && posts.get(sign).fee && t.stood >= 2 && !paid ? 4 : 0;
    }

    long judge(int car) {
        if (noCar(car)) {
            return INDEX;
        }
        return streetOfCar[car] < 0 ? -1 : ticketFor(car).judgement;
    }

    long look(int street) {
        if (noStreet(street)) {
            return INDEX;
        }
        int given = 0;
        for (int car = 0; car < cars.size(); car++) {
            if (streetOfCar[car] != street || tickets.size() == 60) {
                continue;
            }
            Ticket t = ticketFor(car);
            boolean has = tickets.stream().anyMatch(
                    o -> o.car == t.car && o.parking == t.parking && o.quarter / 96 == now / 96);
            if (t.judgement != 0 && !has) {
                tickets.add(t);
                given++;
            }
        }
        return given;
    }

    long appeal(int fine) {
        if (out(fine, 0, tickets.size() - 1)) {
            return INDEX;
        }
        Ticket t = tickets.get(fine);
        if (t.appealed || t.paid) {
            return STATE;
        }
        t.appealed = true;
        t.back = judged(t) == 0;
        return t.back ? 1 : 0;
    }

    long payFine(int fine) {
        if (out(fine, 0, tickets.size() - 1)) {
            return INDEX;
        }
        Ticket t = tickets.get(fine);
        if (t.paid || t.back) {
            return STATE;
        }
        t.paid = true;
        return AMOUNTS[t.judgement];
    }

    long fine(int fine, int what) {
        if (out(fine, 0, tickets.size() - 1)) {
            return INDEX;
        }
        Ticket t = tickets.get(fine);
        int[] told = {t.car, t.street, t.quarter, t.judgement, t.back ? 1 : 0, t.paid ? 1 : 0};
        return out(what, 0, 5) ? ARGUMENT : told[what];
    }

    long debt(int car) {
        return noCar(car) ? INDEX
                : tickets.stream().filter(t -> t.car == car && !t.paid && !t.back).mapToInt(t -> AMOUNTS[t.judgement]).sum();
    }

    long tow(int car) {
        long debt = debt(car);
        if (debt == INDEX) {
            return INDEX;
        }
        if (streetOfCar[car] < 0 || debt < 200) {
            return STATE;
        }
        goAway(car);
        return debt;
    }

    private int takenNow(int street) {
        return (int) IntStream.of(carAt[street]).filter(c -> c != 0).count();
    }

    private int takenFrom(int street, int from) {
        return IntStream.range(from, now).map(q -> takenOf[street][q]).sum();
    }

    long streetIs(int street, int what) {
        if (noStreet(street)) {
            return INDEX;
        }
        if (out(what, 0, 4)) {
            return ARGUMENT;
        }
        int given = (int) tickets.stream().filter(t -> t.street == street).count();
        return new int[] {price[street], takenNow(street), income[street], given, takenFrom(street, now / 96 * 96)}[what];
    }

    long pass(int quarters) {
        if (out(quarters, 1, 96)) {
            return ARGUMENT;
        }
        if (quarters > 49999 - now) {
            return STATE;
        }
        for (int i = 0; i < quarters; i++) {
            for (int street = 0; street < 4; street++) {
                takenOf[street][now] = takenNow(street);
            }
            now++;
            for (int street = 0; now % 96 == 0 && street < 4; street++) {
                int taken = takenFrom(street, now - 96);
                price[street] += taken > 4608 && price[street] < 20 ? 1 : taken < 2304 && price[street] > 0 ? -1 : 0;
            }
        }
        return now;
    }

    int now() {
        return now;
    }

    /** How much has been told so far, for a run to choose its arguments by: cars, signs, permits, fines. */
    int[] sizes() {
        return new int[] {cars.size(), posts.size(), permits.size(), tickets.size()};
    }
}
