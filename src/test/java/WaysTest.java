/** Promises 21 and 23 to 26 by WAYS. */
public final class WaysTest {
    private static final int WAYS = 4;
    private static final Checks CHECKS = new Checks();

    public static void main(String[] args) {
        knownExample();
        rankedAheadOfUnranked();
        alikeByTheDraw();
        seatedOnesStillCarryWays();
        CHECKS.end();
    }

    /** Schulze's own example of 45 papers: E, A, C, B, D. */
    private static void knownExample() {
        BallotHouse x = House.with(5);
        int box = House.boxOf(x, 1,
            House.ranked(x, 5, 0, 2, 1, 4, 3), House.ranked(x, 5, 0, 3, 4, 2, 1),
            House.ranked(x, 8, 1, 4, 3, 0, 2), House.ranked(x, 3, 2, 0, 1, 4, 3),
            House.ranked(x, 7, 2, 0, 4, 1, 3), House.ranked(x, 2, 2, 1, 0, 3, 4),
            House.ranked(x, 7, 3, 2, 4, 1, 0), House.ranked(x, 8, 4, 1, 0, 3, 2));
        CHECKS.due("count()", x.count(House.method(x, WAYS), box, 5), 5);
        CHECKS.seats(x, "WAYS", 4, 0, 2, 1, 3);
        CHECKS.due("rounds()", x.rounds(), 5);
        CHECKS.round(x, 0, 1, 4, 0, 0, 0, 0, 25);
        CHECKS.round(x, 1, 1, 0, 28, 0, 0, 0, 0);
        CHECKS.round(x, 2, 1, 2, 0, 0, 29, 0, 0);
        CHECKS.round(x, 3, 1, 1, 0, 33, 0, 0, 0);
        CHECKS.round(x, 4, 1, 3, 0, 0, 0, 0, 0);
    }

    /** 2 beats 0 and 1 by 5, 1 beats 0 by 3: those not ranked are behind, and alike. */
    private static void rankedAheadOfUnranked() {
        BallotHouse x = House.with(3);
        int box = House.boxOf(x, 1, House.ranked(x, 5, 2), House.ranked(x, 3, 1, 0, 2), House.ranked(x, 9));
        CHECKS.due("count()", x.count(House.method(x, WAYS), box, 3), 3);
        CHECKS.seats(x, "WAYS", 2, 1, 0);
        CHECKS.round(x, 0, 1, 2, 0, 0, 5);
        CHECKS.round(x, 1, 1, 1, 0, 3, 0);
        CHECKS.round(x, 2, 1, 0, 0, 0, 0);
    }

    private static void alikeByTheDraw() {
        BallotHouse x = House.with(3);
        int box = House.boxOf(x, 1, House.ranked(x, 4, 0, 1), House.ranked(x, 4, 1, 0));
        int m = House.method(x, WAYS);
        CHECKS.due("count()", x.count(m, box, 2), 2);
        CHECKS.seats(x, "WAYS", 0, 1);
        CHECKS.round(x, 0, 1, 0, 0, 0, 0);
        CHECKS.round(x, 1, 1, 1, 0, 8, 0);
        x.draw(0, 1);
        CHECKS.due("count()", x.count(m, box, 2), 2);
        CHECKS.seats(x, "WAYS by another draw", 1, 0);
        x.draw(0, 2);
        CHECKS.due("count()", x.count(m, box, 2), 2);
        CHECKS.seats(x, "the first in the draw is beaten", 0, 1);
    }

    /**
     * In the first ring 0 beats 1 by 9, 1 beats 2 by 8, 2 beats 0 by 7. In the second each
     * beats the next by 2, and so the way from 2 by 0 to 1 is as strong as that from 1 to 2,
     * also once 0 has its seat: the draw tells.
     */
    private static void seatedOnesStillCarryWays() {
        BallotHouse x = House.with(3);
        int box = House.boxOf(x, 1, House.ranked(x, 5, 0, 1, 2), House.ranked(x, 3, 1, 2, 0), House.ranked(x, 4, 2, 0, 1));
        int m = House.method(x, WAYS);
        CHECKS.due("count()", x.count(m, box, 3), 3);
        CHECKS.seats(x, "WAYS in a ring", 0, 1, 2);
        CHECKS.round(x, 0, 1, 0, 8, 0, 0);
        CHECKS.round(x, 1, 1, 1, 0, 8, 0);
        CHECKS.round(x, 2, 1, 2, 0, 0, 0);
        BallotHouse y = House.with(3);
        int ring = House.boxOf(y, 1, House.ranked(y, 1, 0, 1, 2), House.ranked(y, 1, 1, 2, 0), House.ranked(y, 1, 2, 0, 1));
        y.draw(1, 2);
        CHECKS.due("count()", y.count(House.method(y, WAYS), ring, 3), 3);
        CHECKS.seats(y, "WAYS all alike: 1 beats 2, but the way back by 0 is as strong", 0, 2, 1);
        CHECKS.round(y, 1, 1, 2, 0, 0, 2);
    }
}
