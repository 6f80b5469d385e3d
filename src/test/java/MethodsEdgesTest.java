/** The edges of promises 16 to 20, and of the sentences on METHODS. */
public final class MethodsEdgesTest {
    private static final int BAD = -1, FULL = -2, NONE = -9;
    private static final int LEAST = Integer.MIN_VALUE, GREATEST = Integer.MAX_VALUE;
    private static final int FIRST = 0, BROKEN = 8;
    private static final int[] NO_METHOD = {-1, 4, 19, 20, NONE, LEAST, GREATEST};
    private static final int[] NO_KIND = {-1, 9, NONE, LEAST, GREATEST};
    private static final Checks CHECKS = new Checks();
    private static final Edges ORDINARY = new Edges(CHECKS, House::ordinary);
    private static final Edges TWENTY = new Edges(CHECKS, MethodsEdgesTest::twenty);

    public static void main(String[] args) {
        kindsFromFirstToBroken();
        marksOfEightBits();
        anyRank();
        aNeedThatWasThere();
        twentyMethodsAtMost();
        methodOfEachWhat();
        underEachKind();
        startOfWhatIsNot();
        notBegunAtFirst();
        whatIsBegunStays();
        aNeedIsStartedFirst();
        aFailureStaysAlone();
        aChainOfTwenty();
        findByEachMark();
        findByTheEndsOfRanks();
        findOfAlikeOnes();
        findGoesOnUntilOneIsStarted();
        findOfNone();
        findOfNoMark();
        CHECKS.end();
    }

    private static void twenty(BallotHouse x) {
        for (int m = 0; m < 20; m++) {
            x.method(m % 9, m, 1 << m % 8, m == 0 ? NONE : m - 1);
        }
    }

    /** KIND, begun, TRIALS, NEED. */
    private static void method(BallotHouse x, int m, int... want) {
        for (int what = 0; what < want.length; what++) {
            CHECKS.due("methodOf(" + m + ", " + what + ")", x.methodOf(m, what), want[what]);
        }
    }

    /** "BAD: the KIND (0 .. 8)" */
    private static void kindsFromFirstToBroken() {
        for (int kind = FIRST; kind <= BROKEN; kind++) {
            int k = kind;
            BallotHouse x = ORDINARY.taken("method(" + k + ", ..)", 4, y -> y.method(k, 0, 0, NONE));
            method(x, 4, k, 0, 0, NONE);
            CHECKS.due("many(3)", x.many(3), 5);
        }
        for (int kind : NO_KIND) {
            ORDINARY.refused("method(" + kind + ", ..)", BAD, x -> x.method(kind, 0, 0, NONE));
        }
    }

    /** "marks not 0 .. 255": 0 has none, 255 has all. */
    private static void marksOfEightBits() {
        for (int marks : new int[] {0, 1, 128, 254, 255}) {
            BallotHouse x = new BallotHouse();
            CHECKS.due("method(.., " + marks + ", ..)", x.method(FIRST, 0, marks, NONE), 0);
            for (int mark = 0; mark < 8; mark++) {
                CHECKS.due("find(" + mark + ") of marks " + marks, x.find(mark), (marks >> mark & 1) == 1 ? 0 : NONE);
            }
        }
        for (int marks : new int[] {-1, 256, 257, NONE, LEAST, GREATEST}) {
            ORDINARY.refused("method(.., " + marks + ", ..)", BAD, x -> x.method(FIRST, 0, marks, NONE));
        }
    }

    private static void anyRank() {
        for (int rank : new int[] {LEAST, -1, 0, NONE, GREATEST}) {
            ORDINARY.taken("method(.., " + rank + ", ..)", 4, x -> x.method(FIRST, rank, 255, NONE));
        }
    }

    /** "a NEED, another METHOD that was there": not itself. */
    private static void aNeedThatWasThere() {
        for (int need = 0; need < 4; need++) {
            int n = need;
            BallotHouse x = ORDINARY.taken("method() that needs " + n, 4, y -> y.method(FIRST, 0, 0, n));
            method(x, 4, FIRST, 0, 0, n);
        }
        for (int need : new int[] {4, 5, 19, 20, -1, -8, -10, LEAST, GREATEST}) {
            ORDINARY.refused("method() that needs " + need, BAD, x -> x.method(FIRST, 0, 0, need));
        }
    }

    /** "METHODS 0, 1, .. (20 at most)"; BAD is ahead of FULL. */
    private static void twentyMethodsAtMost() {
        BallotHouse x = new BallotHouse();
        for (int m = 0; m < 20; m++) {
            CHECKS.due("many(3)", x.many(3), m);
            CHECKS.due("method()", x.method(m % 9, 0, 0, NONE), m);
        }
        TWENTY.refused("method() of a twenty-first", FULL, y -> y.method(FIRST, 0, 0, NONE));
        TWENTY.refused("method() of a twenty-first that needs 19", FULL, y -> y.method(FIRST, GREATEST, 255, 19));
        for (int kind : NO_KIND) {
            TWENTY.refused("the KIND: BAD ahead of FULL", BAD, y -> y.method(kind, 0, 0, NONE));
        }
        TWENTY.refused("marks -1: BAD ahead of FULL", BAD, y -> y.method(FIRST, 0, -1, NONE));
        TWENTY.refused("marks 256: BAD ahead of FULL", BAD, y -> y.method(FIRST, 0, 256, NONE));
        TWENTY.refused("need 20: BAD ahead of FULL", BAD, y -> y.method(FIRST, 0, 0, 20));
        TWENTY.refused("need -1: BAD ahead of FULL", BAD, y -> y.method(FIRST, 0, 0, -1));
        TWENTY.told("methodOf(19, 3)", 18, y -> y.methodOf(19, 3));
        TWENTY.refused("methodOf(20, 0)", BAD, y -> y.methodOf(20, 0));
        TWENTY.refused("start(20)", BAD, y -> y.start(20));
        TWENTY.refused("under(20, 0)", BAD, y -> y.under(20, 0));
    }

    private static void methodOfEachWhat() {
        int[][] want = {{0, 1, 1, NONE}, {8, 0, 0, 0}, {4, 0, 0, 1}, {1, 0, 0, NONE}};
        for (int m = 0; m < 4; m++) {
            int method = m;
            for (int what = 0; what <= 3; what++) {
                int w = what;
                ORDINARY.told("methodOf(" + m + ", " + w + ")", want[m][w], x -> x.methodOf(method, w));
            }
            for (int what : new int[] {-1, 4, NONE, LEAST, GREATEST}) {
                ORDINARY.told("methodOf(" + m + ", " + what + ")", BAD, x -> x.methodOf(method, what));
            }
        }
        for (int method : NO_METHOD) {
            for (int what = -1; what <= 4; what++) {
                int w = what;
                ORDINARY.told("methodOf(" + method + ", " + w + ")", BAD, x -> x.methodOf(method, w));
            }
        }
    }

    /** "PLACES (a POINTS, too)", "DIVISORS (a FIRST, too)", "ODD DIVISORS (a DIVISORS, too)" */
    private static void underEachKind() {
        Edges all = new Edges(CHECKS, x -> {
            for (int kind = FIRST; kind <= BROKEN; kind++) {
                x.method(kind, 0, 0, NONE);
            }
        });
        String[] above = {"0", "1", "1 2", "3", "4", "5", "0 6", "0 6 7", "8"};
        for (int kind = FIRST; kind <= BROKEN; kind++) {
            int k = kind;
            for (int asked = FIRST; asked <= BROKEN; asked++) {
                int a = asked;
                int want = above[k].contains("" + a) ? 1 : 0;
                all.told("under(" + k + ", " + a + ")", want, x -> x.under(k, a));
            }
            for (int none : NO_KIND) {
                all.told("under(" + k + ", " + none + ")", BAD, x -> x.under(k, none));
            }
        }
        for (int method : NO_METHOD) {
            ORDINARY.told("under(" + method + ", 0)", BAD, x -> x.under(method, 0));
            ORDINARY.told("under(" + method + ", 9)", BAD, x -> x.under(method, 9));
        }
    }

    private static void startOfWhatIsNot() {
        for (int method : NO_METHOD) {
            ORDINARY.refused("start(" + method + ")", BAD, x -> x.start(method));
        }
    }

    /** "At first a METHOD is not begun (0)", whether its NEED is or not. */
    private static void notBegunAtFirst() {
        BallotHouse x = new BallotHouse();
        x.method(FIRST, 0, 0, NONE);
        x.method(BROKEN, 0, 0, NONE);
        x.start(0);
        x.start(1);
        x.method(FIRST, 0, 0, 0);
        x.method(FIRST, 0, 0, 1);
        method(x, 2, FIRST, 0, 0, 0);
        method(x, 3, FIRST, 0, 0, 1);
        CHECKS.due("start(3), whose NEED had failed before it came", x.start(3), 2);
        CHECKS.due("start(2), whose NEED was started before it came", x.start(2), 1);
        method(x, 2, FIRST, 1, 1, 0);
        method(x, 3, FIRST, 2, 1, 1);
    }

    /** "if it is started (1) or has failed (2), that stays"; TRIALS stay 1. */
    private static void whatIsBegunStays() {
        for (int kind = FIRST; kind <= BROKEN; kind++) {
            int k = kind;
            int want = k == BROKEN ? 2 : 1;
            Edges one = new Edges(CHECKS, x -> {
                x.method(k, 0, 255, NONE);
                x.start(0);
            });
            one.told("start(0) again", want, x -> x.start(0));
            one.told("methodOf(0, 1)", want, x -> x.methodOf(0, 1));
            one.told("methodOf(0, 2)", 1, x -> x.methodOf(0, 2));
            one.told("find(0)", k == BROKEN ? NONE : 0, x -> x.find(0));
            one.told("find(7)", k == BROKEN ? NONE : 0, x -> x.find(7));
        }
    }

    /** "else its NEED is STARTED first": that of a BROKEN one, too. */
    private static void aNeedIsStartedFirst() {
        BallotHouse x = ORDINARY.taken("start(2)", 2, y -> y.start(2));
        method(x, 0, FIRST, 1, 1, NONE);
        method(x, 1, BROKEN, 2, 1, 0);
        method(x, 2, 4, 2, 1, 1);
        method(x, 3, 1, 0, 0, NONE);
        BallotHouse z = new BallotHouse();
        z.method(FIRST, 0, 0, NONE);
        z.method(BROKEN, 0, 0, 0);
        CHECKS.due("start(1) of a BROKEN one", z.start(1), 2);
        method(z, 0, FIRST, 1, 1, NONE);
    }

    private static void aFailureStaysAlone() {
        BallotHouse x = new BallotHouse();
        x.method(FIRST, 0, 0, NONE);
        x.method(BROKEN, 0, 0, 0);
        x.method(FIRST, 0, 0, 1);
        x.method(FIRST, 0, 0, 0);
        CHECKS.due("start(2)", x.start(2), 2);
        CHECKS.due("start(0)", x.start(0), 1);
        CHECKS.due("start(3), which needs the same as one that failed", x.start(3), 1);
        CHECKS.due("finding(): a failure is no FINDING", x.finding(), 0);
    }

    private static void aChainOfTwenty() {
        for (int broken = 0; broken < 20; broken++) {
            BallotHouse x = new BallotHouse();
            for (int m = 0; m < 20; m++) {
                x.method(m == broken ? BROKEN : FIRST, 0, 0, m == 0 ? NONE : m - 1);
            }
            CHECKS.due("start(19)", x.start(19), 2);
            for (int m = 0; m < 20; m++) {
                method(x, m, m == broken ? BROKEN : FIRST, m < broken ? 1 : 2, 1, m == 0 ? NONE : m - 1);
            }
        }
        BallotHouse y = new BallotHouse();
        for (int m = 0; m < 20; m++) {
            y.method(FIRST, 0, 0, m == 0 ? NONE : m - 1);
        }
        CHECKS.due("start(9)", y.start(9), 1);
        CHECKS.due("methodOf(9, 1)", y.methodOf(9, 1), 1);
        CHECKS.due("methodOf(10, 1)", y.methodOf(10, 1), 0);
        CHECKS.due("start(19)", y.start(19), 1);
        CHECKS.due("methodOf(10, 2)", y.methodOf(10, 2), 1);
    }

    private static void findByEachMark() {
        for (int mark = 0; mark < 8; mark++) {
            int m = mark;
            BallotHouse x = new BallotHouse();
            x.method(FIRST, 9, 255 - (1 << m), NONE);
            x.method(FIRST, 1, 1 << m, NONE);
            CHECKS.due("find(" + m + ")", x.find(m), 1);
            method(x, 0, FIRST, 0, 0, NONE);
            for (int other = 0; other < 8; other++) {
                CHECKS.due("find(" + other + ")", x.find(other), other == m ? 1 : 0);
            }
        }
    }

    /** "by RANKS, the greatest first": those of the least and the greatest int, too. */
    private static void findByTheEndsOfRanks() {
        int[] ranks = {0, LEAST, GREATEST, -1, 1, GREATEST - 1, LEAST + 1};
        int[] order = {2, 5, 4, 0, 3, 6, 1};
        for (int taken = 0; taken < order.length; taken++) {
            BallotHouse x = new BallotHouse();
            for (int m = 0; m < ranks.length; m++) {
                boolean fails = false;
                for (int i = 0; i < taken; i++) {
                    fails = fails || order[i] == m;
                }
                x.method(fails ? BROKEN : FIRST, ranks[m], 128, NONE);
            }
            CHECKS.due("find(7) behind " + taken + " that fail", x.find(7), order[taken]);
            for (int i = 0; i < order.length; i++) {
                int want = i < taken ? 2 : i == taken ? 1 : 0;
                CHECKS.due("methodOf(.., 1) of place " + i, x.methodOf(order[i], 1), want);
            }
        }
    }

    /** "of alike ones by numbers" */
    private static void findOfAlikeOnes() {
        for (int first = 0; first < 20; first++) {
            BallotHouse x = new BallotHouse();
            for (int m = 0; m < 20; m++) {
                x.method(m < first ? BROKEN : FIRST, GREATEST, 1, NONE);
            }
            CHECKS.due("find(0)", x.find(0), first);
            for (int m = 0; m < 20; m++) {
                CHECKS.due("methodOf(" + m + ", 2)", x.methodOf(m, 2), m <= first ? 1 : 0);
            }
        }
    }

    private static void findGoesOnUntilOneIsStarted() {
        BallotHouse x = new BallotHouse();
        x.method(BROKEN, 0, 0, NONE);
        x.method(FIRST, 9, 1, 0);
        x.method(FIRST, 8, 2, NONE);
        x.method(FIRST, 7, 1, 2);
        x.method(FIRST, 6, 1, NONE);
        CHECKS.due("find(0)", x.find(0), 3);
        method(x, 0, BROKEN, 2, 1, NONE);
        method(x, 1, FIRST, 2, 1, 0);
        method(x, 2, FIRST, 1, 1, NONE);
        method(x, 3, FIRST, 1, 1, 2);
        method(x, 4, FIRST, 0, 0, NONE);
        CHECKS.due("find(0) again: one that is started is started", x.find(0), 3);
        method(x, 4, FIRST, 0, 0, NONE);
        BallotHouse y = new BallotHouse();
        y.method(FIRST, 2, 1, NONE);
        y.method(FIRST, 1, 1, NONE);
        y.start(1);
        CHECKS.due("find(0): the greatest first, not the one that is started", y.find(0), 0);
        method(y, 0, FIRST, 1, 1, NONE);
    }

    /** All are tried, and all have failed: NONE, which is no refusal; what was tried stays. */
    private static void findOfNone() {
        BallotHouse x = new BallotHouse();
        for (int m = 0; m < 20; m++) {
            x.method(m % 2 == 0 ? BROKEN : FIRST, m % 3, 3, m % 2 == 0 ? NONE : m - 1);
        }
        CHECKS.due("find(2): none has it", x.find(2), NONE);
        CHECKS.due("methodOf(0, 2)", x.methodOf(0, 2), 0);
        CHECKS.due("find(1): all fail", x.find(1), NONE);
        for (int m = 0; m < 20; m++) {
            CHECKS.due("methodOf(" + m + ", 1)", x.methodOf(m, 1), 2);
            CHECKS.due("methodOf(" + m + ", 2)", x.methodOf(m, 2), 1);
        }
        CHECKS.due("find(0): all have failed", x.find(0), NONE);
    }

    /** "a MARK (0 .. 7)" */
    private static void findOfNoMark() {
        for (int mark : new int[] {-1, 8, 31, 32, 39, NONE, LEAST, GREATEST}) {
            ORDINARY.refused("find(" + mark + ")", BAD, x -> x.find(mark));
            TWENTY.refused("find(" + mark + ")", BAD, x -> x.find(mark));
        }
    }
}
