/** Promises 5 to 9 and 15: ballot, rank, score, told, is, weight. */
public final class BallotsTest {
    private static final int[] NO_BALLOT = {-1, 1, 60, -9, Integer.MIN_VALUE, Integer.MAX_VALUE};
    private static final int[] NO_CANDIDATE = {-1, 3, -9, Integer.MIN_VALUE, Integer.MAX_VALUE};
    private static final Checks CHECKS = new Checks();

    public static void main(String[] args) {
        coming();
        ranking();
        rankingRefused();
        scoring();
        telling();
        being();
        weighing();
        CHECKS.end();
    }

    private static void coming() {
        BallotHouse x = new BallotHouse();
        int[] noSort = {-1, 4, -9, Integer.MIN_VALUE, Integer.MAX_VALUE};
        for (int sort : noSort) {
            CHECKS.due("ballot(" + sort + ", 1)", x.ballot(sort, 1), -1);
        }
        int[] noPapers = {0, -1, 100001, Integer.MIN_VALUE, Integer.MAX_VALUE};
        for (int papers : noPapers) {
            CHECKS.due("ballot(1, " + papers + ")", x.ballot(1, papers), -1);
        }
        CHECKS.due("many(1)", x.many(1), 0);
        for (int b = 0; b < 60; b++) {
            int papers = b == 0 ? 1 : b == 1 ? 100000 : b;
            CHECKS.due("ballot()", x.ballot(b % 4, papers), b);
            CHECKS.due("told(b, 0)", x.told(b, 0), b % 4);
            CHECKS.due("told(b, 1)", x.told(b, 1), papers);
        }
        long before = x.digest();
        CHECKS.due("ballot() of a sixty-first", x.ballot(0, 1), -2);
        CHECKS.due("BAD is ahead of FULL: sort", x.ballot(4, 1), -1);
        CHECKS.due("BAD is ahead of FULL: papers", x.ballot(0, 0), -1);
        CHECKS.due("many(1)", x.many(1), 60);
        CHECKS.due("digest()", x.digest(), before);
    }

    private static void ranking() {
        BallotHouse x = House.with(10);
        x.ballot(1, 5);
        x.ballot(2, 5);
        for (int i = 0; i < 10; i++) {
            CHECKS.due("rank(0, ..)", x.rank(0, 9 - i), i + 1);
            CHECKS.due("told(0, 2)", x.told(0, 2), i + 1);
            CHECKS.due("told(0, 3 + i)", x.told(0, 3 + i), 9 - i);
        }
        CHECKS.due("rank() of one that is on it", x.rank(0, 4), -4);
        CHECKS.due("rank(1, 7)", x.rank(1, 7), 1);
        CHECKS.due("rank() of a second on a SINGLE one", x.rank(1, 6), -4);
        CHECKS.due("rank() of the same on a SINGLE one", x.rank(1, 7), -4);
        CHECKS.due("told(1, 2)", x.told(1, 2), 1);
        CHECKS.due("told(1, 3)", x.told(1, 3), 7);
        CHECKS.due("finding()", x.finding(), 0);
    }

    private static void rankingRefused() {
        BallotHouse x = House.with(3);
        x.ballot(1, 5);
        for (int b : NO_BALLOT) {
            CHECKS.due("rank(" + b + ", 0)", x.rank(b, 0), -1);
        }
        for (int c : NO_CANDIDATE) {
            CHECKS.due("rank(0, " + c + ")", x.rank(0, c), -1);
        }
        CHECKS.due("told(0, 2)", x.told(0, 2), 0);
        x.ballot(0, 5);
        x.ballot(3, 5);
        CHECKS.found(x, "rank() on a PAPER", 0, x.rank(1, 0), 3);
        CHECKS.found(x, "rank() on a SCORED one", 1, x.rank(2, 0), 3);
        CHECKS.due("BAD is ahead of UNLIKE", x.rank(1, 3), -1);
        CHECKS.due("findings(3)", x.findings(3), 2);
        CHECKS.due("told(2, 2)", x.told(2, 2), 0);
        CHECKS.due("told(2, 3)", x.told(2, 3), 0);
    }

    private static void scoring() {
        BallotHouse x = House.with(3);
        x.ballot(3, 5);
        CHECKS.due("score(0, 1, 9)", x.score(0, 1, 9), 0);
        CHECKS.due("score(0, 1, 0)", x.score(0, 1, 0), 9);
        CHECKS.due("score(0, 1, 4)", x.score(0, 1, 4), 0);
        CHECKS.due("score(0, 2, 7)", x.score(0, 2, 7), 0);
        CHECKS.due("score(0, 1, 4)", x.score(0, 1, 4), 4);
        for (int b : NO_BALLOT) {
            CHECKS.due("score(" + b + ", 0, 1)", x.score(b, 0, 1), -1);
        }
        for (int c : NO_CANDIDATE) {
            CHECKS.due("score(0, " + c + ", 1)", x.score(0, c, 1), -1);
        }
        int[] noPoints = {-1, 10, -9, Integer.MIN_VALUE, Integer.MAX_VALUE};
        for (int points : noPoints) {
            CHECKS.due("score(0, 1, " + points + ")", x.score(0, 1, points), -1);
        }
        CHECKS.due("told(0, 4)", x.told(0, 4), 4);
        CHECKS.due("finding()", x.finding(), 0);
        for (int sort = 0; sort <= 2; sort++) {
            int b = x.ballot(sort, 1);
            CHECKS.due("BAD is ahead of UNLIKE", x.score(b, 0, 10), -1);
            CHECKS.found(x, "score() on sort " + sort, sort, x.score(b, 0, 1), 3);
            CHECKS.due("told(b, 3)", x.told(b, 3), -9);
        }
    }

    private static void telling() {
        BallotHouse x = House.with(2);
        x.ballot(0, 6);
        House.ranked(x, 7, 1);
        x.ballot(2, 8);
        House.scored(x, 9, 3, 8);
        int[][] want = {{0, 6, 0, -9, -9}, {1, 7, 1, 1, -9}, {2, 8, 0, -9, -9}, {3, 9, 0, 3, 8, -9}};
        for (int b = 0; b < want.length; b++) {
            for (int what = 0; what < want[b].length; what++) {
                CHECKS.due("told(" + b + ", " + what + ")", x.told(b, what), want[b][what]);
            }
            CHECKS.due("told(b, -1)", x.told(b, -1), -1);
            CHECKS.due("told(b, least)", x.told(b, Integer.MIN_VALUE), -1);
            CHECKS.due("told(b, greatest)", x.told(b, Integer.MAX_VALUE), -9);
        }
        x.stand();
        CHECKS.due("points of one that came later", x.told(3, 5), 0);
        CHECKS.due("told(3, 6)", x.told(3, 6), -9);
        CHECKS.due("score() of one that came later", x.score(3, 2, 5), 0);
        CHECKS.due("told(3, 5)", x.told(3, 5), 5);
        CHECKS.due("told(-1, 0)", x.told(-1, 0), -1);
        CHECKS.due("told(4, 0)", x.told(4, 0), -1);
        CHECKS.due("told(60, 0)", x.told(60, 0), -1);
    }

    private static void being() {
        BallotHouse x = new BallotHouse();
        int[][] want = {{1, 0, 0, 0}, {1, 1, 0, 0}, {1, 1, 1, 0}, {1, 0, 0, 1}};
        for (int b = 0; b < 4; b++) {
            x.ballot(b, 1);
            for (int sort = 0; sort < 4; sort++) {
                CHECKS.due("is(" + b + ", " + sort + ")", x.is(b, sort), want[b][sort]);
            }
            CHECKS.due("is(b, -1)", x.is(b, -1), -1);
            CHECKS.due("is(b, 4)", x.is(b, 4), -1);
            CHECKS.due("is(b, NONE)", x.is(b, -9), -1);
        }
        CHECKS.due("is(-1, 0)", x.is(-1, 0), -1);
        CHECKS.due("is(4, 0)", x.is(4, 0), -1);
        CHECKS.due("is(greatest, 0)", x.is(Integer.MAX_VALUE, 0), -1);
    }

    private static void weighing() {
        BallotHouse x = House.with(3);
        House.scored(x, 50, 1, 2, 4);
        CHECKS.due("weight(0, 0)", x.weight(0, 0), 142);
        CHECKS.due("weight(0, 1)", x.weight(0, 1), 285);
        CHECKS.due("weight(0, 2)", x.weight(0, 2), 571);
        for (int b : NO_BALLOT) {
            CHECKS.due("weight(" + b + ", 0)", x.weight(b, 0), -1);
        }
        for (int c : NO_CANDIDATE) {
            CHECKS.due("weight(0, " + c + ")", x.weight(0, c), -1);
        }
        House.scored(x, 50, 0, 0, 0);
        CHECKS.found(x, "weight() shared among none", 0, x.weight(1, 0), 4);
        x.score(1, 2, 1);
        CHECKS.due("weight(1, 0)", x.weight(1, 0), 0);
        CHECKS.due("weight(1, 2)", x.weight(1, 2), 1000);
        for (int sort = 0; sort <= 2; sort++) {
            int b = x.ballot(sort, 1);
            CHECKS.due("BAD is ahead of UNLIKE", x.weight(b, 3), -1);
            CHECKS.found(x, "weight() of sort " + sort, sort, x.weight(b, 0), 3);
        }
        x.stand();
        CHECKS.due("weight(0, 3) of one that came later", x.weight(0, 3), 0);
    }
}
