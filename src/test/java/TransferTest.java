/** Promises 21 and 23 to 26 by TRANSFER. */
public final class TransferTest {
    private static final int NONE = BallotHouse.NONE;
    private static final int TRANSFER = 5;
    private static final Checks CHECKS = new Checks();

    public static void main(String[] args) {
        fractions();
        severalPlaces();
        noMoreThanSeats();
        alikeByTheDraw();
        quotaOfAllPapers();
        transfersOfTransfers();
        fullBox();
        justNotSpent();
        justNotSpentBelow();
        spentByAWeight();
        spentByASum();
        spentByTheLastSeat();
        CHECKS.end();
    }

    /** QUOTA 4; of 7 papers 3 go on: 5 by 3/7 to one, 2 by 3/7 to the other. */
    private static void fractions() {
        BallotHouse x = House.with(3);
        int box = House.boxOf(x, 1, House.ranked(x, 5, 0, 1), NONE, House.ranked(x, 2, 0, 2), House.ranked(x, 2, 2));
        CHECKS.due("count()", x.count(House.method(x, TRANSFER), box, 2), 2);
        CHECKS.seats(x, "TRANSFER", 0, 2);
        CHECKS.due("rounds()", x.rounds(), 3);
        CHECKS.round(x, 0, 1, 0, 7, 0, 2);
        CHECKS.round(x, 1, 2, 1);
        CHECKS.tally(x, 1, 0, 0, 1);
        CHECKS.tally(x, 1, 1, 15, 7);
        CHECKS.tally(x, 1, 2, 20, 7);
        CHECKS.round(x, 2, 1, 2);
        CHECKS.tally(x, 2, 0, 0, 1);
        CHECKS.tally(x, 2, 1, 0, 1);
        CHECKS.tally(x, 2, 2, 20, 7);
    }

    /** QUOTA 2; a ballot in two places counts twice, and its weight is taken times once. */
    private static void severalPlaces() {
        BallotHouse x = House.with(3);
        int twice = House.ranked(x, 2, 0, 1);
        int box = House.boxOf(x, 1, twice, House.ranked(x, 1, 2), twice);
        CHECKS.due("count()", x.count(House.method(x, TRANSFER), box, 2), 2);
        CHECKS.seats(x, "TRANSFER", 0, 1);
        CHECKS.due("rounds()", x.rounds(), 2);
        CHECKS.round(x, 0, 1, 0, 4, 0, 1);
        CHECKS.round(x, 1, 1, 1, 0, 2, 1);
    }

    /** As many are in as there are seats: weights stay, and do not come to the others. */
    private static void noMoreThanSeats() {
        BallotHouse x = House.with(2);
        int box = House.boxOf(x, 1, House.ranked(x, 9, 1, 0), House.ranked(x, 1, 0));
        CHECKS.due("count()", x.count(House.method(x, TRANSFER), box, 2), 2);
        CHECKS.seats(x, "TRANSFER", 1, 0);
        CHECKS.due("rounds()", x.rounds(), 2);
        CHECKS.round(x, 0, 1, 1, 1, 9);
        CHECKS.round(x, 1, 1, 0, 10, 0);
    }

    private static void alikeByTheDraw() {
        BallotHouse x = House.with(4);
        int box = x.box(1, 4);
        int m = House.method(x, TRANSFER);
        x.draw(0, 3);
        x.draw(1, 2);
        CHECKS.due("count() without papers", x.count(m, box, 2), 2);
        CHECKS.seats(x, "TRANSFER by the draw", 3, 2);
        CHECKS.round(x, 0, 2, 0, 0, 0, 0, 0);
        CHECKS.round(x, 1, 2, 1, 0, 0, 0, 0);
        CHECKS.round(x, 2, 1, 3, 0, 0, 0, 0);
        CHECKS.round(x, 3, 1, 2, 0, 0, 0, 0);
        x.put(box, 0, House.ranked(x, 3, 0));
        x.put(box, 1, House.ranked(x, 3, 1));
        CHECKS.due("count() of two that reach the quota", x.count(m, box, 2), 2);
        CHECKS.seats(x, "TRANSFER by the draw", 1, 0);
        CHECKS.due("rounds()", x.rounds(), 2);
    }

    /** Papers with none on them are papers, too: 6 by 2, and 1 more, is 4; without them it is 2. */
    private static void quotaOfAllPapers() {
        BallotHouse x = House.with(3);
        int box = House.boxOf(x, 1, House.ranked(x, 3, 0), House.ranked(x, 3));
        CHECKS.due("count()", x.count(House.method(x, TRANSFER), box, 1), 1);
        CHECKS.due("rounds()", x.rounds(), 3);
        CHECKS.round(x, 0, 2, 2, 3, 0, 0);
        CHECKS.round(x, 1, 2, 1, 3, 0, 0);
        CHECKS.round(x, 2, 1, 0, 3, 0, 0);
        BallotHouse y = House.with(2);
        int even = House.boxOf(y, 1, House.ranked(y, 3, 0), House.ranked(y, 3, 1));
        CHECKS.due("count()", y.count(House.method(y, TRANSFER), even, 1), 1);
        CHECKS.round(y, 0, 2, 1, 3, 3);
        BallotHouse z = House.with(2);
        int just = House.boxOf(z, 1, House.ranked(z, 4, 1), House.ranked(z, 3, 0));
        CHECKS.due("count()", z.count(House.method(z, TRANSFER), just, 1), 1);
        CHECKS.due("rounds(): it is just the quota", z.rounds(), 1);
        CHECKS.round(z, 0, 1, 1, 3, 4);
    }

    /**
     * QUOTA 24 by 4, and 1 more: 7. 0 has 14, of which 7/14 go on: 6 of ballot a, 1 of b.
     * 1 has 3 and 6, of which 2/9 go on: a 4/3, c 2/3; b came to 2 and 3.
     */
    private static void transfersOfTransfers() {
        BallotHouse x = House.with(5);
        int box = House.boxOf(x, 1, House.ranked(x, 12, 0, 1, 2), House.ranked(x, 2, 0, 3),
            House.ranked(x, 3, 1, 4), House.ranked(x, 4, 2), House.ranked(x, 3, 3));
        CHECKS.due("count()", x.count(House.method(x, TRANSFER), box, 3), 3);
        CHECKS.round(x, 0, 1, 0, 14, 3, 4, 3, 0);
        CHECKS.round(x, 1, 1, 1, 0, 9, 4, 4, 0);
        CHECKS.round(x, 2, 2, 4, 0, 0);
        CHECKS.tally(x, 2, 2, 16, 3);
        CHECKS.tally(x, 2, 3, 4, 1);
        CHECKS.tally(x, 2, 4, 2, 3);
        CHECKS.round(x, 3, 2, 3, 0, 0);
        CHECKS.tally(x, 3, 2, 16, 3);
        CHECKS.tally(x, 3, 4, 0, 1);
        CHECKS.round(x, 4, 1, 2, 0, 0);
        CHECKS.tally(x, 4, 2, 16, 3);
        CHECKS.seats(x, "TRANSFER", 0, 1, 2);
        CHECKS.due("rounds()", x.rounds(), 5);
    }

    /** QUOTA 40 by 3, and 1 more: 14; of the 20 papers of 0 there go on 6. */
    private static void fullBox() {
        BallotHouse x = House.with(3);
        int box = x.box(1, 40);
        int first = House.ranked(x, 1, 0, 1);
        int second = House.ranked(x, 1, 1);
        for (int i = 0; i < 40; i++) {
            x.put(box, i, i % 2 == 0 ? first : second);
        }
        CHECKS.due("count()", x.count(House.method(x, TRANSFER), box, 2), 2);
        CHECKS.round(x, 0, 1, 0, 20, 20, 0);
        CHECKS.round(x, 1, 1, 1, 0, 26, 0);
        CHECKS.seats(x, "TRANSFER", 0, 1);
    }

    /** 0 has 100003; the others have so many that 10000 or 10001 are above the quota of a third. */
    private static BallotHouse nearlySpent(int others, int... onFirst) {
        BallotHouse x = House.with(4);
        House.method(x, TRANSFER);
        House.boxOf(x, 1, House.ranked(x, 100000, onFirst), House.ranked(x, 3, 0),
            House.ranked(x, 85001, 1), House.ranked(x, others - 85001, 2));
        return x;
    }

    /** The weight is 100000 times 10000 by 100003: its upper number is just 1000000000. */
    private static void justNotSpent() {
        BallotHouse x = nearlySpent(170003, 0, 3);
        CHECKS.due("count()", x.count(0, 0, 2), 2);
        CHECKS.round(x, 0, 1, 0, 100003, 85001, 85002, 0);
        CHECKS.round(x, 1, 2, 3, 0, 85001, 85002);
        CHECKS.tally(x, 1, 3, 1000000000, 100003);
        CHECKS.seats(x, "TRANSFER", 0, 2);
    }

    /**
     * QUOTA 3814. 0 has 4096, of which 141/2048 go on: 8037/512 to 1, which has 1953125/512
     * then, of which 357/1953125 go on: 2869209 by 512 times 1953125, which is 1000000000.
     */
    private static void justNotSpentBelow() {
        BallotHouse x = House.with(5);
        int box = House.boxOf(x, 1, House.ranked(x, 228, 0, 1, 4), House.ranked(x, 3868, 0),
            House.ranked(x, 3799, 1), House.ranked(x, 3600, 2), House.ranked(x, 3757, 3));
        CHECKS.due("count()", x.count(House.method(x, TRANSFER), box, 3), 3);
        CHECKS.round(x, 1, 1, 1);
        CHECKS.tally(x, 1, 1, 1953125, 512);
        CHECKS.round(x, 2, 2, 4, 0, 0, 3600, 3757);
        CHECKS.tally(x, 2, 4, 2869209, 1000000000);
        CHECKS.seats(x, "TRANSFER", 0, 1, 3);
    }

    private static void spentByAWeight() {
        BallotHouse x = nearlySpent(170000, 0);
        CHECKS.due("count()", x.count(0, 0, 2), -6);
        CHECKS.due("rounds()", x.rounds(), 0);
        CHECKS.due("many(4)", x.many(4), 0);
    }

    private static void spentByASum() {
        BallotHouse x = nearlySpent(170003, 0, 2);
        CHECKS.due("count()", x.count(0, 0, 2), -6);
        CHECKS.due("finding()", x.finding(), 0);
        CHECKS.due("where()", x.where(), NONE);
        CHECKS.due("seat(0)", x.seat(0), NONE);
    }

    /** A round is gone through whole, the one with the last seat, too. */
    private static void spentByTheLastSeat() {
        BallotHouse x = House.with(2);
        int box = House.boxOf(x, 1, House.ranked(x, 50021, 0), House.ranked(x, 49970, 0));
        CHECKS.due("count()", x.count(House.method(x, TRANSFER), box, 1), -6);
    }
}
