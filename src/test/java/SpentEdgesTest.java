/** "in lowest terms, would have a number above 1000000000: SPENT": the last number taken, the first not. */
public final class SpentEdgesTest {
    private static final int SPENT = -6, NONE = -9;
    private static final int TRANSFER = 5;
    private static final int HAS_SEAT = 1, IS_OUT = 2;
    private static final Checks CHECKS = new Checks();

    public static void main(String[] args) {
        upperNumberOfASum();
        upperNumberOfAWeight();
        lowerNumberOfAWeight();
        lowerNumberOfASum();
        sumsGoBallotByBallot();
        lowestTermsCount();
        spentChangesNothing();
        weightsStayForTheLastOnes();
        CHECKS.end();
    }

    private static BallotHouse house(int candidates) {
        BallotHouse x = House.with(candidates);
        x.method(TRANSFER, 0, 1, NONE);
        x.box(1, 40);
        return x;
    }

    /** Lays down papers for one first choice, in as many ballots as they need. */
    private static int lay(BallotHouse x, int place, int papers, int... order) {
        int i = place;
        for (int left = papers; left > 0; left -= 100000) {
            x.put(0, i, House.ranked(x, Math.min(left, 100000), order));
            i++;
        }
        return i;
    }

    /**
     * QUOTA 70000: 0 has 70001, of which 1/70001 goes on. 1 has 14285 and gets so many by
     * 70001: the upper number of the sum is 14285 times 70001 and so many, 999964285 and 35715.
     */
    private static void upperNumberOfASum() {
        for (int over = 0; over <= 1; over++) {
            BallotHouse x = house(4);
            int i = lay(x, 0, 35715 + over, 0, 1);
            i = lay(x, i, 70001 - 35715 - over, 0);
            i = lay(x, i, 14285, 1);
            i = lay(x, i, 62855, 2);
            lay(x, i, 62856, 3);
            if (over == 0) {
                CHECKS.due("count() up to 1000000000", x.count(0, 0, 2), 2);
                CHECKS.round(x, 0, HAS_SEAT, 0, 70001, 14285, 62855, 62856);
                CHECKS.round(x, 1, IS_OUT, 1);
                CHECKS.tally(x, 1, 1, 1000000000, 70001);
                CHECKS.seats(x, "TRANSFER", 0, 3);
            } else {
                CHECKS.due("count() up to 1000000001", x.count(0, 0, 2), SPENT);
            }
        }
    }

    /**
     * QUOTA 40981: 0 has 60000, of which 19019/60000 go on. A ballot of 52579 papers then has a
     * weight of 1000000001/60000; one of 52578 166663497/10000.
     */
    private static void upperNumberOfAWeight() {
        for (int over = 0; over <= 1; over++) {
            BallotHouse x = house(4);
            int i = lay(x, 0, 52578 + over, 0, 1);
            i = lay(x, i, 60000 - 52578 - over, 0);
            i = lay(x, i, 31470, 2);
            lay(x, i, 31470, 3);
            if (over == 0) {
                CHECKS.due("count()", x.count(0, 0, 2), 2);
                CHECKS.tally(x, 1, 1, 166663497, 10000);
            } else {
                CHECKS.due("count() up to 1000000001", x.count(0, 0, 2), SPENT);
            }
        }
    }

    /**
     * QUOTA 168591: 0 has 168707, of which 116/168707 go on; 2191 papers are 116/77 then. 1 has
     * 168661 and 116/77, that is 12987013/77, of which 5506/12987013 go on: the weight that was
     * 116/77 has a lower number of 77 times 12987013, which is 1000000001.
     */
    private static void lowerNumberOfAWeight() {
        BallotHouse x = house(5);
        int i = lay(x, 0, 2191, 0, 1, 4);
        i = lay(x, i, 166516, 0);
        i = lay(x, i, 168661, 1);
        i = lay(x, i, 168496, 2);
        lay(x, i, 168496, 3);
        CHECKS.due("count() down to 1000000001", x.count(0, 0, 3), SPENT);
        CHECKS.due("rounds()", x.rounds(), 0);
    }

    /**
     * QUOTA 18503 if 1 has 52579, 0 has 19019 and 2 has 2410 papers; 34076/52579 and 516/19019 of
     * those of 1 and 0 go on. The first ballots are for 3 behind 1 and 0, and lie in this order.
     */
    private static BallotHouse goingOnTo3(int[] papers, int[] first) {
        BallotHouse x = house(5);
        int[] left = {19019, 52579, 2410};
        for (int i = 0; i < papers.length; i++) {
            x.put(0, i, House.ranked(x, papers[i], first[i], 3));
            left[first[i]] -= papers[i];
        }
        int place = papers.length;
        for (int c = 0; c < 3; c++) {
            // Halves, as the weight of a ballot with all papers of 1 would be SPENT on its own.
            place = lay(x, place, left[c] / 2, c);
            place = lay(x, place, left[c] - left[c] / 2, c);
        }
        return x;
    }

    /** 34076/52579 and 516/19019 are 675222208/1000000001: only the sum is too great. */
    private static void lowerNumberOfASum() {
        BallotHouse x = goingOnTo3(new int[] {1, 1}, new int[] {1, 0});
        CHECKS.due("count() down to 1000000001", x.count(0, 0, 3), SPENT);
        BallotHouse y = goingOnTo3(new int[] {1}, new int[] {1});
        CHECKS.due("count() without the second one", y.count(0, 0, 3), 3);
        CHECKS.tally(y, 2, 3, 34076, 52579);
        BallotHouse z = goingOnTo3(new int[] {1}, new int[] {0});
        CHECKS.due("count() without the first one", z.count(0, 0, 3), 3);
        CHECKS.tally(z, 2, 3, 516, 19019);
    }

    /**
     * "Fractions are added BALLOT by BALLOT, by places": all papers of 0 together are a whole
     * number of papers above the quota, to which the fraction of 1 can be added; to the fraction
     * of one of its two ballots it cannot.
     */
    private static void sumsGoBallotByBallot() {
        BallotHouse between = goingOnTo3(new int[] {10000, 5, 9019}, new int[] {0, 1, 0});
        CHECKS.due("count() with the one of 1 between", between.count(0, 0, 3), SPENT);
        BallotHouse first = goingOnTo3(new int[] {5, 10000, 9019}, new int[] {1, 0, 0});
        CHECKS.due("count() with the one of 1 first", first.count(0, 0, 3), SPENT);
        BallotHouse last = goingOnTo3(new int[] {10000, 9019, 5}, new int[] {0, 0, 1});
        CHECKS.due("count() with the one of 1 last", last.count(0, 0, 3), 3);
        CHECKS.round(last, 0, HAS_SEAT, 1, 19019, 52579, 2410, 0, 0);
        CHECKS.round(last, 1, HAS_SEAT, 0, 19019, 0, 2410);
        CHECKS.tally(last, 1, 3, 170380, 52579);
        CHECKS.round(last, 2, IS_OUT, 4, 0, 0, 2410);
        CHECKS.tally(last, 2, 3, 516 * 52579 + 170380, 52579);
    }

    /** Both weights have a lower number of 60001, whose square is above; their sum's is 60001 again. */
    private static void lowestTermsCount() {
        BallotHouse x = house(4);
        int i = lay(x, 0, 7, 0, 1);
        i = lay(x, i, 8, 0, 1);
        i = lay(x, i, 60001 - 15, 0);
        i = lay(x, i, 50000, 2);
        lay(x, i, 49999, 3);
        CHECKS.due("count(): QUOTA is 53334", x.count(0, 0, 2), 2);
        CHECKS.tally(x, 1, 1, 15 * 6667, 60001);
    }

    private static void spentChangesNothing() {
        Edges spent = new Edges(CHECKS, x -> {
            for (int c = 0; c < 4; c++) {
                x.stand();
            }
            x.method(0, 0, 2, NONE);
            x.method(TRANSFER, 0, 1, NONE);
            x.box(1, 40);
            int i = lay(x, 0, 52579, 0, 1);
            i = lay(x, i, 60000 - 52579, 0);
            i = lay(x, i, 31470, 2);
            lay(x, i, 31470, 3);
            x.count(0, 0, 3);
        });
        spent.refusedAs("count(1, 0, 2)", SPENT, x -> x.count(1, 0, 2), x -> x.start(1));
    }

    /** "If no more are in than there are SEATS left .. (WEIGHTS stay)": nothing is taken times. */
    private static void weightsStayForTheLastOnes() {
        BallotHouse x = house(2);
        int i = lay(x, 0, 50021, 0, 1);
        lay(x, i, 49970, 0, 1);
        CHECKS.due("count()", x.count(0, 0, 2), 2);
        CHECKS.round(x, 0, HAS_SEAT, 0, 99991, 0);
        CHECKS.round(x, 1, HAS_SEAT, 1, 0, 99991);
    }
}
