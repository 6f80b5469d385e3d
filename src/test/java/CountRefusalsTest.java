/** Promises 21, 22 and 27 to 29: what count() refuses, where, many, finding, findings. */
public final class CountRefusalsTest {
    private static final int NONE = BallotHouse.NONE;
    private static final int FIRST = 0, POINTS = 1, TRANSFER = 5, DIVISORS = 6, ODD_DIVISORS = 7, BROKEN = 8;
    private static final Checks CHECKS = new Checks();

    public static void main(String[] args) {
        badNumbers();
        seatsAndCandidates();
        failedMethods();
        unlikeBallots();
        unlikeAheadOfSpent();
        refusedCountsKeepTheResult();
        whereIsOfTheLatest();
        manyAndFindings();
        CHECKS.end();
    }

    private static void badNumbers() {
        BallotHouse x = House.with(2);
        x.method(FIRST, 0, 0, NONE);
        x.box(1, 2);
        int[] none = {-1, 1, 20, -9, Integer.MIN_VALUE, Integer.MAX_VALUE};
        for (int n : none) {
            CHECKS.due("count(" + n + ", 0, 1)", x.count(n, 0, 1), -1);
            CHECKS.due("count(0, " + n + ", 1)", x.count(0, n, 1), -1);
        }
        int[] noSeats = {0, -1, 3, 31, Integer.MIN_VALUE, Integer.MAX_VALUE};
        for (int seats : noSeats) {
            CHECKS.due("count(0, 0, " + seats + ")", x.count(0, 0, seats), -1);
        }
        CHECKS.due("a BAD count starts nothing", x.methodOf(0, 1), 0);
        CHECKS.due("rounds()", x.rounds(), 0);
        CHECKS.due("count(0, 0, 2)", x.count(0, 0, 2), 2);
        CHECKS.due("a count starts its method", x.methodOf(0, 1), 1);
    }

    private static void seatsAndCandidates() {
        for (int kind = 0; kind <= 7; kind++) {
            BallotHouse x = new BallotHouse();
            boolean divisors = kind == DIVISORS || kind == ODD_DIVISORS;
            x.method(kind, 0, 0, NONE);
            x.box(0, 1);
            CHECKS.due("count() without candidates by " + kind, x.count(0, 0, 1), -1);
            CHECKS.due("count() of 30 without candidates by " + kind, x.count(0, 0, 30), -1);
            for (int n = 1; n <= 10; n++) {
                x.stand();
                CHECKS.due("as many seats as candidates by " + kind, x.count(0, 0, n), n);
                CHECKS.due("one seat more by " + kind, x.count(0, 0, n + 1), divisors ? n + 1 : -1);
            }
            CHECKS.due("30 seats by " + kind, x.count(0, 0, 30), divisors ? 30 : -1);
            CHECKS.due("31 seats by " + kind, x.count(0, 0, 31), -1);
            CHECKS.due("0 seats by " + kind, x.count(0, 0, 0), -1);
        }
    }

    private static void failedMethods() {
        BallotHouse x = House.with(2);
        x.method(FIRST, 0, 0, NONE);
        x.method(BROKEN, 0, 0, 0);
        x.method(FIRST, 0, 0, 1);
        x.box(0, 1);
        x.ballot(0, 1);
        x.put(0, 0, 0);
        CHECKS.due("BAD is ahead of STATE: seats", x.count(2, 0, 3), -1);
        CHECKS.due("nothing was tried", x.methodOf(2, 2), 0);
        CHECKS.due("STATE is ahead of UNLIKE", x.count(2, 0, 1), -4);
        CHECKS.due("it stays tried", x.methodOf(2, 2), 1);
        CHECKS.due("it has failed", x.methodOf(2, 1), 2);
        CHECKS.due("its need has failed", x.methodOf(1, 1), 2);
        CHECKS.due("the need of that is started", x.methodOf(0, 1), 1);
        CHECKS.due("count() by a BROKEN one", x.count(1, 0, 1), -4);
        CHECKS.due("seats of a BROKEN one", x.count(1, 0, 3), -1);
        CHECKS.due("finding()", x.finding(), 0);
        CHECKS.due("where()", x.where(), NONE);
        CHECKS.due("rounds()", x.rounds(), 0);
    }

    private static void unlikeBallots() {
        for (int kind = 0; kind <= 7; kind++) {
            for (int sort = 0; sort <= 3; sort++) {
                BallotHouse x = House.with(2);
                x.method(kind, 0, 0, NONE);
                x.box(0, 5);
                x.put(0, 1, kind == POINTS ? x.ballot(3, 4) : x.ballot(2, 4));
                int odd = x.ballot(sort, 3);
                x.put(0, 3, odd);
                x.put(0, 4, odd);
                boolean fits = kind == POINTS ? sort == 3 : sort == 1 || sort == 2;
                String call = "count() by " + kind + " of sort " + sort;
                if (fits) {
                    CHECKS.due(call, x.count(0, 0, 1), 1);
                    CHECKS.due("where() behind " + call, x.where(), NONE);
                } else {
                    CHECKS.found(x, call, 0, x.count(0, 0, 1), 3);
                    CHECKS.due("where() behind " + call, x.where(), 3);
                    CHECKS.due("it was to START all the same", x.methodOf(0, 1), 1);
                }
            }
        }
    }

    /** Two ballots whose weights would grow too great, and a later one that is no RANKED. */
    private static BallotHouse spending() {
        BallotHouse x = House.with(3);
        x.method(TRANSFER, 0, 0, NONE);
        x.box(0, 3);
        x.put(0, 0, House.ranked(x, 50021, 0, 1));
        x.put(0, 1, House.ranked(x, 49970, 0, 2));
        return x;
    }

    private static void unlikeAheadOfSpent() {
        BallotHouse x = spending();
        CHECKS.due("count(0, 0, 2)", x.count(0, 0, 2), -6);
        CHECKS.due("where()", x.where(), NONE);
        CHECKS.due("it is started all the same", x.methodOf(0, 1), 1);
        x.put(0, 2, x.ballot(3, 1));
        CHECKS.found(x, "count(0, 0, 2)", 0, x.count(0, 0, 2), 3);
        CHECKS.due("where()", x.where(), 2);
    }

    private static void refusedCountsKeepTheResult() {
        BallotHouse x = spending();
        x.method(FIRST, 0, 0, NONE);
        x.method(BROKEN, 0, 0, NONE);
        x.method(POINTS, 0, 0, NONE);
        CHECKS.due("count(1, 0, 1)", x.count(1, 0, 1), 1);
        int[] refused = {x.count(0, 0, 2), x.count(2, 0, 1), x.count(3, 0, 1), x.count(1, 0, 4)};
        int[] want = {-6, -4, -3, -1};
        for (int i = 0; i < want.length; i++) {
            CHECKS.due("a refused count", refused[i], want[i]);
        }
        CHECKS.seats(x, "the one that was not refused", 0);
        CHECKS.due("rounds()", x.rounds(), 1);
        CHECKS.round(x, 0, 1, 0, 99991, 0, 0);
        CHECKS.due("count(1, 0, 2)", x.count(1, 0, 2), 2);
        CHECKS.seats(x, "the next", 0, 1);
    }

    private static void whereIsOfTheLatest() {
        BallotHouse x = spending();
        x.method(FIRST, 0, 0, NONE);
        x.method(BROKEN, 0, 0, NONE);
        int paper = x.ballot(0, 1);
        int bad = x.box(0, 2);
        x.put(bad, 1, paper);
        int[][] others = {{1, 0, 9, -1}, {9, 0, 1, -1}, {1, 9, 1, -1}, {2, 0, 1, -4}, {0, 0, 2, -6}, {1, 0, 1, 1}};
        for (int[] call : others) {
            CHECKS.due("count() that is UNLIKE", x.count(1, bad, 1), -3);
            CHECKS.due("where()", x.where(), 1);
            CHECKS.due("where() again", x.where(), 1);
            CHECKS.due("another count()", x.count(call[0], call[1], call[2]), call[3]);
            CHECKS.due("where() behind another count()", x.where(), NONE);
        }
        x.count(1, bad, 1);
        x.at(bad, 0);
        x.box(0, -1);
        CHECKS.due("where() behind other findings", x.where(), 1);
    }

    private static void manyAndFindings() {
        BallotHouse x = House.with(4);
        for (int i = 0; i < 3; i++) {
            x.ballot(0, 1);
        }
        x.box(0, 1);
        x.box(0, 1);
        x.method(ODD_DIVISORS, 0, 0, NONE);
        x.count(0, 0, 17);
        int[] want = {4, 3, 2, 1, 17};
        for (int what = 0; what <= 4; what++) {
            CHECKS.due("many(" + what + ")", x.many(what), want[what]);
        }
        int[] none = {-1, 5, -9, Integer.MIN_VALUE, Integer.MAX_VALUE};
        for (int what : none) {
            CHECKS.due("many(" + what + ")", x.many(what), -1);
        }
        int[] noFinding = {0, 7, -1, -9, Integer.MIN_VALUE, Integer.MAX_VALUE};
        for (int f : noFinding) {
            CHECKS.due("findings(" + f + ")", x.findings(f), -1);
        }
        x.at(0, 0);
        x.box(0, -1);
        CHECKS.due("finding()", x.finding(), 5);
        x.stand();
        x.drawn(-1);
        x.rank(-1, 0);
        CHECKS.due("finding() behind what is no finding", x.finding(), 5);
        CHECKS.due("findings(1)", x.findings(1), 1);
        CHECKS.due("findings(5)", x.findings(5), 1);
        CHECKS.due("findings(2)", x.findings(2), 0);
    }
}
