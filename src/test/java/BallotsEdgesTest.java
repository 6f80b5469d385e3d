/** The edges of promises 5 to 9 and 15, and of the sentences on BALLOTS and their sorts. */
public final class BallotsEdgesTest {
    private static final int BAD = -1, FULL = -2, STATE = -4, NONE = -9;
    private static final int LEAST = Integer.MIN_VALUE, GREATEST = Integer.MAX_VALUE;
    private static final int PAPER = 0, RANKED = 1, SINGLE = 2, SCORED = 3;
    private static final int UNLIKE = 3, NOUGHT = 4;
    private static final int[] NO_BALLOT = {-1, 7, 59, 60, NONE, LEAST, GREATEST};
    private static final int[] NO_CANDIDATE = {-1, 3, 9, 10, NONE, LEAST, GREATEST};
    private static final int[] NO_SORT = {-1, 4, NONE, LEAST, GREATEST};
    private static final Checks CHECKS = new Checks();
    private static final Edges ORDINARY = new Edges(CHECKS, House::ordinary);
    private static final Edges SIXTY = new Edges(CHECKS, BallotsEdgesTest::sixty);

    public static void main(String[] args) {
        ballotsOfTheFourSorts();
        papersFromOneToAHundredThousand();
        sixtyBallotsAtMost();
        tenOnARankedOne();
        eachOnceAtMost();
        oneAtMostOnASingleOne();
        rankOfWhatIsNot();
        rankOfAnotherSort();
        pointsFromNoughtToNine();
        scoreOfWhatIsNot();
        scoreOfAnotherSort();
        toldOfEachSort();
        toldOfWhatIsNot();
        pointsOfOneThatComesLater();
        isOfEachSort();
        isOfWhatIsNot();
        weightsAreCut();
        weightOfWhatIsNot();
        weightOfAnotherSort();
        weightAmongNone();
        theLastBallotIsAsGoodAsTheFirst();
        CHECKS.end();
    }

    private static void sixty(BallotHouse x) {
        x.stand();
        for (int b = 0; b < 60; b++) {
            x.ballot(b % 4, b + 1);
        }
    }

    private static void ballotsOfTheFourSorts() {
        for (int sort = PAPER; sort <= SCORED; sort++) {
            int s = sort;
            BallotHouse x = ORDINARY.taken("ballot(" + s + ", 8)", 7, y -> y.ballot(s, 8));
            CHECKS.due("told(7, 0)", x.told(7, 0), s);
            CHECKS.due("told(7, 2)", x.told(7, 2), 0);
            CHECKS.due("told(7, 3)", x.told(7, 3), s == SCORED ? 0 : NONE);
            CHECKS.due("many(1)", x.many(1), 8);
        }
        for (int sort : NO_SORT) {
            ORDINARY.refused("ballot(" + sort + ", 8)", BAD, x -> x.ballot(sort, 8));
        }
    }

    /** "each standing for so many papers (1 .. 100000)" */
    private static void papersFromOneToAHundredThousand() {
        for (int sort = PAPER; sort <= SCORED; sort++) {
            int s = sort;
            for (int papers : new int[] {1, 2, 99999, 100000}) {
                BallotHouse x = ORDINARY.taken("ballot(.., " + papers + ")", 7, y -> y.ballot(s, papers));
                CHECKS.due("told(7, 1)", x.told(7, 1), papers);
            }
            for (int papers : new int[] {0, -1, 100001, NONE, LEAST, GREATEST}) {
                ORDINARY.refused("ballot(.., " + papers + ")", BAD, x -> x.ballot(s, papers));
            }
        }
    }

    /** "BALLOTS 0, 1, .. (60 at most)"; BAD is ahead of FULL. */
    private static void sixtyBallotsAtMost() {
        BallotHouse x = new BallotHouse();
        for (int b = 0; b < 60; b++) {
            CHECKS.due("many(1)", x.many(1), b);
            CHECKS.due("ballot()", x.ballot(b % 4, 1), b);
        }
        for (int sort = PAPER; sort <= SCORED; sort++) {
            int s = sort;
            SIXTY.refused("ballot(" + s + ", 1) of a sixty-first", FULL, y -> y.ballot(s, 1));
        }
        SIXTY.refused("ballot(0, 100000) of a sixty-first", FULL, y -> y.ballot(0, 100000));
        for (int sort : NO_SORT) {
            SIXTY.refused("ballot(" + sort + ", 1): BAD ahead of FULL", BAD, y -> y.ballot(sort, 1));
        }
        SIXTY.refused("ballot(0, 0): BAD ahead of FULL", BAD, y -> y.ballot(0, 0));
        SIXTY.refused("ballot(0, 100001): BAD ahead of FULL", BAD, y -> y.ballot(0, 100001));
    }

    /** "CANDIDATES in order": as many as there can be. */
    private static void tenOnARankedOne() {
        BallotHouse x = House.with(10);
        x.ballot(RANKED, 1);
        for (int i = 0; i < 10; i++) {
            int candidate = i * 7 % 10;
            CHECKS.due("told() of the next place", x.told(0, 3 + i), NONE);
            CHECKS.due("rank(0, " + candidate + ")", x.rank(0, candidate), i + 1);
            CHECKS.due("told(0, 2)", x.told(0, 2), i + 1);
        }
        for (int i = 0; i < 10; i++) {
            CHECKS.due("told(0, " + (3 + i) + ")", x.told(0, 3 + i), i * 7 % 10);
        }
        CHECKS.due("told(0, 13)", x.told(0, 13), NONE);
    }

    /** "each once at most"; "STATE: it is on it": the first one, one amid, the last one. */
    private static void eachOnceAtMost() {
        Edges full = new Edges(CHECKS, x -> {
            for (int c = 0; c < 10; c++) {
                x.stand();
            }
            House.ranked(x, 1, 9, 8, 7, 6, 5, 4, 3, 2, 1, 0);
        });
        for (int candidate = 0; candidate < 10; candidate++) {
            int c = candidate;
            full.refused("rank(0, " + c + ") of one that is on it", STATE, x -> x.rank(0, c));
        }
        full.refused("rank(0, 10): BAD ahead of STATE", BAD, x -> x.rank(0, 10));
        ORDINARY.refused("rank(1, 2), which is its first", STATE, x -> x.rank(1, 2));
        ORDINARY.refused("rank(1, 0), which is its last", STATE, x -> x.rank(1, 0));
        ORDINARY.taken("rank(1, 1), which is not on it", 3, x -> x.rank(1, 1));
        ORDINARY.taken("rank(4, 0) on an empty one", 1, x -> x.rank(4, 0));
        ORDINARY.taken("rank(4, 2) on an empty one", 1, x -> x.rank(4, 2));
    }

    /** "SINGLE: one at most"; "STATE: it is a SINGLE one with one" */
    private static void oneAtMostOnASingleOne() {
        BallotHouse x = ORDINARY.taken("rank(5, 2) on an empty SINGLE one", 1, y -> y.rank(5, 2));
        CHECKS.due("told(5, 2)", x.told(5, 2), 1);
        CHECKS.due("told(5, 3)", x.told(5, 3), 2);
        CHECKS.due("told(5, 4)", x.told(5, 4), NONE);
        for (int candidate = 0; candidate < 3; candidate++) {
            int c = candidate;
            ORDINARY.refused("rank(2, " + c + ") on a SINGLE one with 1", STATE, y -> y.rank(2, c));
        }
        ORDINARY.refused("rank(2, 3): BAD ahead of STATE", BAD, y -> y.rank(2, 3));
    }

    private static void rankOfWhatIsNot() {
        for (int ballot : NO_BALLOT) {
            ORDINARY.refused("rank(" + ballot + ", 0)", BAD, x -> x.rank(ballot, 0));
        }
        for (int candidate : NO_CANDIDATE) {
            for (int ballot = 0; ballot < 7; ballot++) {
                int b = ballot;
                ORDINARY.refused("rank(" + b + ", " + candidate + "): BAD ahead of all", BAD,
                    x -> x.rank(b, candidate));
            }
        }
    }

    /** "UNLIKE: no RANKED one. (UNLIKE ahead of STATE.)" */
    private static void rankOfAnotherSort() {
        for (int candidate = 0; candidate < 3; candidate++) {
            int c = candidate;
            ORDINARY.found("rank(0, " + c + ") on a PAPER", UNLIKE, x -> x.rank(0, c));
            ORDINARY.found("rank(3, " + c + ") on a SCORED one", UNLIKE, x -> x.rank(3, c));
            ORDINARY.found("rank(6, " + c + ") on a SCORED one without points", UNLIKE, x -> x.rank(6, c));
        }
        Edges before = new Edges(CHECKS, x -> {
            House.ordinary(x);
            x.rank(3, 0);
        });
        before.found("rank(3, 0) once more: no STATE", UNLIKE, x -> x.rank(3, 0));
    }

    /** "points 0 .. 9"; score() answers "what they were" */
    private static void pointsFromNoughtToNine() {
        for (int points = 0; points <= 9; points++) {
            int p = points;
            BallotHouse x = ORDINARY.taken("score(3, 0, " + p + ")", 4, y -> y.score(3, 0, p));
            CHECKS.due("told(3, 3)", x.told(3, 3), p);
            CHECKS.due("told(3, 5) of another", x.told(3, 5), 5);
            CHECKS.due("score() again", x.score(3, 0, 9 - p), p);
            CHECKS.due("told(3, 3)", x.told(3, 3), 9 - p);
        }
        for (int points : new int[] {-1, 10, NONE, LEAST, GREATEST}) {
            ORDINARY.refused("score(3, 0, " + points + ")", BAD, x -> x.score(3, 0, points));
            ORDINARY.refused("score(0, 0, " + points + "): BAD ahead of UNLIKE", BAD, x -> x.score(0, 0, points));
            ORDINARY.refused("score(1, 0, " + points + "): BAD ahead of UNLIKE", BAD, x -> x.score(1, 0, points));
            ORDINARY.refused("score(2, 0, " + points + "): BAD ahead of UNLIKE", BAD, x -> x.score(2, 0, points));
        }
    }

    private static void scoreOfWhatIsNot() {
        for (int ballot : NO_BALLOT) {
            ORDINARY.refused("score(" + ballot + ", 0, 1)", BAD, x -> x.score(ballot, 0, 1));
        }
        for (int candidate : NO_CANDIDATE) {
            ORDINARY.refused("score(3, " + candidate + ", 1)", BAD, x -> x.score(3, candidate, 1));
            ORDINARY.refused("score(1, " + candidate + ", 1): BAD ahead of UNLIKE", BAD,
                x -> x.score(1, candidate, 1));
        }
        ORDINARY.taken("score(3, 2, 0)", 5, x -> x.score(3, 2, 0));
        ORDINARY.taken("score(3, 1, 9)", 0, x -> x.score(3, 1, 9));
    }

    private static void scoreOfAnotherSort() {
        for (int ballot : new int[] {0, 1, 2, 4, 5}) {
            ORDINARY.found("score(" + ballot + ", 0, 0)", UNLIKE, x -> x.score(ballot, 0, 0));
            ORDINARY.found("score(" + ballot + ", 2, 9)", UNLIKE, x -> x.score(ballot, 2, 9));
        }
    }

    private static void toldOfEachSort() {
        int[][] want = {{0, 2, 0, NONE}, {1, 5, 2, 2, 0, NONE}, {2, 4, 1, 1, NONE}, {3, 3, 0, 4, 0, 5, NONE},
            {1, 7, 0, NONE}, {2, 1, 0, NONE}, {3, 6, 0, 0, 0, 0, NONE}};
        for (int ballot = 0; ballot < want.length; ballot++) {
            int b = ballot;
            for (int what = 0; what < want[b].length; what++) {
                int w = what;
                ORDINARY.told("told(" + b + ", " + w + ")", want[b][w], x -> x.told(b, w));
            }
        }
    }

    /** "NONE: none such. BAD: the BALLOT, what below 0." */
    private static void toldOfWhatIsNot() {
        for (int ballot = 0; ballot < 7; ballot++) {
            int b = ballot;
            for (int what : new int[] {-1, -3, NONE, LEAST}) {
                ORDINARY.told("told(" + b + ", " + what + ")", BAD, x -> x.told(b, what));
            }
            for (int what : new int[] {6, 12, 13, 14, GREATEST}) {
                ORDINARY.told("told(" + b + ", " + what + ")", NONE, x -> x.told(b, what));
            }
        }
        for (int ballot : NO_BALLOT) {
            for (int what : new int[] {-1, 0, 1, 2, 3, GREATEST}) {
                ORDINARY.told("told(" + ballot + ", " + what + "): BAD ahead of NONE", BAD,
                    x -> x.told(ballot, what));
            }
        }
    }

    /** "points 0 .. 9 for each CANDIDATE (0 at first, also for one that comes later)" */
    private static void pointsOfOneThatComesLater() {
        BallotHouse x = new BallotHouse();
        x.ballot(SCORED, 1);
        for (int c = 0; c < 10; c++) {
            CHECKS.due("told() of one that is not there yet", x.told(0, 3 + c), NONE);
            CHECKS.due("score() of one that is not there yet", x.score(0, c, 9), BAD);
            x.stand();
            CHECKS.due("told() of one that came later", x.told(0, 3 + c), 0);
            CHECKS.due("score() of one that came later", x.score(0, c, 9), 0);
            CHECKS.due("told()", x.told(0, 3 + c), 9);
        }
        CHECKS.due("told(0, 13)", x.told(0, 13), NONE);
        CHECKS.due("weight(0, 9): 9 of 90", x.weight(0, 9), 100);
    }

    private static void isOfEachSort() {
        int[][] want = {{1, 0, 0, 0}, {1, 1, 0, 0}, {1, 1, 1, 0}, {1, 0, 0, 1}};
        for (int ballot = 0; ballot < 4; ballot++) {
            int b = ballot;
            for (int sort = PAPER; sort <= SCORED; sort++) {
                int s = sort;
                ORDINARY.told("is(" + b + ", " + s + ")", want[b][s], x -> x.is(b, s));
            }
        }
        ORDINARY.told("is(5, SINGLE) of an empty one", 1, x -> x.is(5, SINGLE));
        ORDINARY.told("is(4, SINGLE) of an empty RANKED one", 0, x -> x.is(4, SINGLE));
    }

    private static void isOfWhatIsNot() {
        for (int ballot : NO_BALLOT) {
            ORDINARY.told("is(" + ballot + ", 0)", BAD, x -> x.is(ballot, 0));
        }
        for (int sort : NO_SORT) {
            for (int ballot = 0; ballot < 4; ballot++) {
                int b = ballot;
                ORDINARY.told("is(" + b + ", " + sort + ")", BAD, x -> x.is(b, sort));
            }
        }
    }

    /** "A thousand times the points .. by its points for all, cut." */
    private static void weightsAreCut() {
        ORDINARY.told("weight(3, 0): 4 of 9", 444, x -> x.weight(3, 0));
        ORDINARY.told("weight(3, 1): 0 of 9", 0, x -> x.weight(3, 1));
        ORDINARY.told("weight(3, 2): 5 of 9", 555, x -> x.weight(3, 2));
        BallotHouse x = House.with(10);
        House.scored(x, 100000, 1, 9, 9, 9, 9, 9, 9, 9, 9, 9);
        CHECKS.due("1 of 82", x.weight(0, 0), 12);
        CHECKS.due("9 of 82", x.weight(0, 9), 109);
        BallotHouse y = House.with(10);
        House.scored(y, 1, 0, 0, 0, 0, 0, 0, 0, 0, 0, 1);
        CHECKS.due("1 of 1", y.weight(0, 9), 1000);
        CHECKS.due("0 of 1", y.weight(0, 0), 0);
    }

    private static void weightOfWhatIsNot() {
        for (int ballot : NO_BALLOT) {
            ORDINARY.told("weight(" + ballot + ", 0)", BAD, x -> x.weight(ballot, 0));
        }
        for (int candidate : NO_CANDIDATE) {
            ORDINARY.told("weight(3, " + candidate + ")", BAD, x -> x.weight(3, candidate));
            ORDINARY.told("weight(1, " + candidate + "): BAD ahead of UNLIKE", BAD, x -> x.weight(1, candidate));
            ORDINARY.told("weight(6, " + candidate + "): BAD ahead of NOUGHT", BAD, x -> x.weight(6, candidate));
        }
    }

    private static void weightOfAnotherSort() {
        for (int ballot : new int[] {0, 1, 2, 4, 5}) {
            for (int candidate = 0; candidate < 3; candidate++) {
                int c = candidate;
                ORDINARY.found("weight(" + ballot + ", " + c + ")", UNLIKE, x -> x.weight(ballot, c));
            }
        }
    }

    /** "NOUGHT (shared among none)": points for all are 0. */
    private static void weightAmongNone() {
        for (int candidate = 0; candidate < 3; candidate++) {
            int c = candidate;
            ORDINARY.found("weight(6, " + c + ")", NOUGHT, x -> x.weight(6, c));
            Edges one = new Edges(CHECKS, x -> {
                House.ordinary(x);
                x.score(6, c, 1);
            });
            one.told("weight(6, 0) behind one point", c == 0 ? 1000 : 0, x -> x.weight(6, 0));
            Edges taken = new Edges(CHECKS, x -> {
                House.ordinary(x);
                x.score(6, c, 9);
                x.score(6, c, 0);
            });
            taken.found("weight(6, 0) behind points that were taken away", NOUGHT, x -> x.weight(6, 0));
        }
    }

    private static void theLastBallotIsAsGoodAsTheFirst() {
        SIXTY.told("told(59, 0)", 3, x -> x.told(59, 0));
        SIXTY.told("told(59, 1)", 60, x -> x.told(59, 1));
        SIXTY.told("told(60, 0)", BAD, x -> x.told(60, 0));
        SIXTY.told("is(59, 3)", 1, x -> x.is(59, 3));
        SIXTY.told("is(60, 0)", BAD, x -> x.is(60, 0));
        SIXTY.taken("rank(58, 0)", 1, x -> x.rank(58, 0));
        SIXTY.taken("score(59, 0, 9)", 0, x -> x.score(59, 0, 9));
        SIXTY.refused("rank(60, 0)", BAD, x -> x.rank(60, 0));
        SIXTY.refused("score(60, 0, 1)", BAD, x -> x.score(60, 0, 1));
        SIXTY.found("weight(59, 0)", NOUGHT, x -> x.weight(59, 0));
    }
}
