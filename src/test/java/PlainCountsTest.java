/** Promises 21 and 23 to 26 by FIRST, POINTS, PLACES, DIVISORS, ODD DIVISORS and RUN-OFF. */
public final class PlainCountsTest {
    private static final int NONE = BallotHouse.NONE;
    private static final Checks CHECKS = new Checks();

    public static void main(String[] args) {
        firstChoices();
        points();
        places();
        divisors();
        oddDivisors();
        divisorsWithoutPapers();
        runOff();
        runOffAlike();
        runOffOfOne();
        askingForWhatIsNot();
        comingLater();
        CHECKS.end();
    }

    private static void firstChoices() {
        BallotHouse x = House.with(4);
        int a = House.ranked(x, 5, 2, 0);
        int b = House.ranked(x, 3, 1);
        int c = House.ranked(x, 9);
        int box = House.boxOf(x, 1, a, NONE, b, c, b);
        int m = House.method(x, 0);
        CHECKS.due("count()", x.count(m, box, 4), 4);
        CHECKS.seats(x, "FIRST", 1, 2, 0, 3);
        CHECKS.due("rounds()", x.rounds(), 4);
        int[] seated = {1, 2, 0, 3};
        for (int i = 0; i < 4; i++) {
            CHECKS.round(x, i, 1, seated[i], 0, 6, 5, 0);
        }
        x.draw(0, 3);
        CHECKS.due("the result is not counted anew", x.seat(2), 0);
        CHECKS.due("count()", x.count(m, box, 3), 3);
        CHECKS.seats(x, "FIRST by another draw", 1, 2, 3);
    }

    private static void points() {
        BallotHouse x = House.with(3);
        int a = House.scored(x, 100000, 9, 8, 0);
        int b = House.scored(x, 7, 0, 3, 1);
        int box = House.boxOf(x, 3, a, b, NONE, b);
        int m = House.method(x, 1);
        CHECKS.due("count()", x.count(m, box, 2), 2);
        CHECKS.seats(x, "POINTS", 0, 1);
        CHECKS.round(x, 0, 1, 0, 900000, 800042, 14);
        CHECKS.round(x, 1, 1, 1, 900000, 800042, 14);
        int full = x.box(0, 40);
        for (int i = 0; i < 40; i++) {
            x.put(full, i, a);
        }
        CHECKS.due("count() of many papers", x.count(m, full, 1), 1);
        CHECKS.round(x, 0, 1, 0, 36000000, 32000000, 0);
    }

    private static void places() {
        BallotHouse x = House.with(4);
        int a = House.ranked(x, 5, 3, 1);
        int b = House.ranked(x, 2, 0, 1, 2, 3);
        int single = x.ballot(2, 4);
        x.rank(single, 2);
        int box = House.boxOf(x, 1, a, b, single);
        int m = House.method(x, 2);
        CHECKS.due("count()", x.count(m, box, 4), 4);
        CHECKS.seats(x, "PLACES", 3, 1, 2, 0);
        CHECKS.round(x, 0, 1, 3, 6, 14, 14, 15);
        CHECKS.round(x, 3, 1, 0, 6, 14, 14, 15);
        x.stand();
        CHECKS.due("N is of now", x.count(m, box, 1), 1);
        CHECKS.round(x, 0, 1, 3, 8, 21, 20, 22, 0);
    }

    private static void divisors() {
        BallotHouse x = House.with(3);
        int a = House.ranked(x, 53, 0);
        int b = House.ranked(x, 24, 1);
        int c = House.ranked(x, 23, 2);
        int box = House.boxOf(x, 1, a, b, c);
        int m = House.method(x, 6);
        CHECKS.due("count()", x.count(m, box, 7), 7);
        CHECKS.seats(x, "DIVISORS", 0, 0, 1, 2, 0, 0, 1);
        for (int i = 0; i < 7; i++) {
            CHECKS.round(x, i, 1, x.seat(i), 53, 24, 23);
        }
        CHECKS.due("rounds()", x.rounds(), 7);
    }

    private static void oddDivisors() {
        BallotHouse x = House.with(3);
        int a = House.ranked(x, 53, 0);
        int b = House.ranked(x, 24, 1, 0);
        int c = House.ranked(x, 23, 2, 0);
        int box = House.boxOf(x, 1, a, b, c);
        int m = House.method(x, 7);
        CHECKS.due("count()", x.count(m, box, 7), 7);
        CHECKS.seats(x, "ODD DIVISORS", 0, 1, 2, 0, 0, 1, 2);
        CHECKS.round(x, 6, 1, 2, 53, 24, 23);
    }

    private static void divisorsWithoutPapers() {
        BallotHouse x = House.with(2);
        int box = x.box(1, 0);
        int m = House.method(x, 6);
        x.draw(0, 1);
        CHECKS.due("count()", x.count(m, box, 30), 30);
        CHECKS.due("seat(29)", x.seat(29), 1);
        CHECKS.round(x, 29, 1, 1, 0, 0);
        x.put(House.boxOf(x, 1, House.ranked(x, 6, 0), House.ranked(x, 3, 1)), 0, 0);
        CHECKS.due("alike by divisors", x.count(m, 1, 3), 3);
        CHECKS.seats(x, "DIVISORS by the draw", 0, 1, 0);
    }

    private static void runOff() {
        BallotHouse x = House.with(4);
        int a = House.ranked(x, 8, 0, 1);
        int b = House.ranked(x, 7, 1, 0);
        int c = House.ranked(x, 6, 2, 1, 0);
        int d = House.ranked(x, 2, 3);
        int e = House.ranked(x, 1, 3, 2);
        int box = House.boxOf(x, 1, a, b, NONE, c, d, e);
        int m = House.method(x, 3);
        CHECKS.due("count()", x.count(m, box, 3), 3);
        CHECKS.seats(x, "RUN-OFF", 1, 0, 2);
        CHECKS.due("rounds()", x.rounds(), 4);
        CHECKS.round(x, 0, 2, 3, 8, 7, 6, 3);
        CHECKS.round(x, 1, 2, 2, 8, 7, 7, 0);
        CHECKS.round(x, 2, 2, 0, 8, 13, 0, 0);
        CHECKS.round(x, 3, 1, 1, 0, 21, 0, 0);
    }

    private static void runOffAlike() {
        BallotHouse x = House.with(3);
        int box = x.box(1, 3);
        int m = House.method(x, 3);
        x.draw(0, 1);
        CHECKS.due("count() without papers", x.count(m, box, 2), 2);
        CHECKS.seats(x, "RUN-OFF by the draw", 1, 0);
        CHECKS.round(x, 0, 2, 2, 0, 0, 0);
        CHECKS.round(x, 1, 2, 0, 0, 0, 0);
        CHECKS.round(x, 2, 1, 1, 0, 0, 0);
        CHECKS.due("count() of one seat", x.count(m, box, 1), 1);
        CHECKS.seats(x, "RUN-OFF for one", 1);
        CHECKS.due("rounds()", x.rounds(), 3);
    }

    private static void runOffOfOne() {
        BallotHouse x = House.with(1);
        int box = House.boxOf(x, 1, House.ranked(x, 4, 0));
        CHECKS.due("count()", x.count(House.method(x, 3), box, 1), 1);
        CHECKS.seats(x, "RUN-OFF of one", 0);
        CHECKS.due("rounds()", x.rounds(), 1);
        CHECKS.round(x, 0, 1, 0, 4);
    }

    private static void askingForWhatIsNot() {
        BallotHouse x = House.with(2);
        int box = House.boxOf(x, 1, House.ranked(x, 4, 0));
        x.count(House.method(x, 0), box, 1);
        int[] none = {-1, 1, 30, -9, Integer.MIN_VALUE, Integer.MAX_VALUE};
        for (int i : none) {
            CHECKS.due("seat(" + i + ")", x.seat(i), NONE);
            CHECKS.due("round(" + i + ", 0)", x.round(i, 0), NONE);
            CHECKS.due("round(" + i + ", 1)", x.round(i, 1), NONE);
            CHECKS.due("round(" + i + ", 2): BAD is ahead", x.round(i, 2), -1);
            CHECKS.due("tally(" + i + ", 0, false)", x.tally(i, 0, false), NONE);
            CHECKS.due("tally(" + i + ", 0, true)", x.tally(i, 0, true), NONE);
            CHECKS.due("tally(" + i + ", 2, true): BAD is ahead", x.tally(i, 2, true), -1);
        }
        int[] bad = {-1, 2, 10, -9, Integer.MIN_VALUE, Integer.MAX_VALUE};
        for (int b : bad) {
            CHECKS.due("round(0, " + b + ")", x.round(0, b), -1);
            CHECKS.due("tally(0, " + b + ", false)", x.tally(0, b, false), -1);
            CHECKS.due("tally(0, " + b + ", true)", x.tally(0, b, true), -1);
        }
        CHECKS.due("finding()", x.finding(), 0);
    }

    private static void comingLater() {
        BallotHouse x = House.with(2);
        int box = House.boxOf(x, 1, House.ranked(x, 4, 1));
        x.count(House.method(x, 0), box, 2);
        CHECKS.due("tally() of one that is not there", x.tally(0, 2, true), -1);
        x.stand();
        CHECKS.tally(x, 0, 2, 0, 1);
        CHECKS.tally(x, 1, 2, 0, 1);
        CHECKS.tally(x, 0, 1, 4, 1);
    }
}
