/** The edges of promises 21 and 22: what count() refuses, and what where() tells then. */
public final class CountEdgesTest {
    private static final int BAD = -1, STATE = -4, SPENT = -6, NONE = -9, FINDING = -3;
    private static final int LEAST = Integer.MIN_VALUE, GREATEST = Integer.MAX_VALUE;
    private static final int FIRST = 0, POINTS = 1, TRANSFER = 5, DIVISORS = 6, ODD_DIVISORS = 7, BROKEN = 8;
    private static final int RANKED = 1, SINGLE = 2, SCORED = 3;
    private static final Checks CHECKS = new Checks();
    private static final Edges ORDINARY = new Edges(CHECKS, House::ordinary);
    /** As spending() fills it; methods 0 to 3: TRANSFER, FIRST, BROKEN, a TRANSFER that needs it. */
    private static final Edges SPENDING = new Edges(CHECKS, CountEdgesTest::spending);

    public static void main(String[] args) {
        seatsOfEachKind();
        noCandidates();
        methodsAndBoxesThatAreNot();
        badIsAheadOfAll();
        stateStaysTried();
        stateIsAheadOfUnlikeAndSpent();
        spentStaysStarted();
        unlikeAtTheEndsOfABox();
        unlikeByEachKind();
        unlikeIsAheadOfSpent();
        anEmptyPlaceIsNotUnlike();
        whereIsOfTheLatestCount();
        whereStaysByOtherCalls();
        CHECKS.end();
    }

    private static boolean byDivisors(int kind) {
        return kind == DIVISORS || kind == ODD_DIVISORS;
    }

    /** A box whose TRANSFER for 2 is SPENT, and box 1 with an UNLIKE ballot behind the same. */
    private static void spending(BallotHouse x) {
        for (int c = 0; c < 4; c++) {
            x.stand();
        }
        int a = House.ranked(x, 50021, 0, 1);
        int b = House.ranked(x, 49970, 0, 2);
        int paper = x.ballot(0, 1);
        House.boxOf(x, 0, a, b, NONE);
        House.boxOf(x, 0, a, b, paper);
        x.method(TRANSFER, 0, 1, NONE);
        x.method(FIRST, 0, 2, NONE);
        x.method(BROKEN, 0, 4, 1);
        x.method(TRANSFER, 0, 8, 2);
    }

    /** "SEATS (1 .. 30)"; "BAD: also more SEATS than CANDIDATES (but by DIVISORS)" */
    private static void seatsOfEachKind() {
        for (int kind = FIRST; kind < BROKEN; kind++) {
            int k = kind;
            for (int candidates : new int[] {1, 2, 9, 10}) {
                int n = candidates;
                Edges some = new Edges(CHECKS, x -> {
                    for (int c = 0; c < n; c++) {
                        x.stand();
                    }
                    x.box(0, 40);
                    x.method(k, 0, 255, NONE);
                });
                String by = " of " + n + " by " + k;
                for (int seats : new int[] {1, n}) {
                    BallotHouse x = some.taken("count() for " + seats + by, seats, y -> y.count(0, 0, seats));
                    CHECKS.due("many(4)", x.many(4), seats);
                    CHECKS.due("where()", x.where(), NONE);
                }
                for (int seats : new int[] {n + 1, 29, 30}) {
                    if (byDivisors(k)) {
                        some.taken("count() for " + seats + by, seats, x -> x.count(0, 0, seats));
                    } else {
                        some.refused("count() for " + seats + by, BAD, x -> x.count(0, 0, seats));
                    }
                }
                for (int seats : new int[] {0, -1, 31, NONE, LEAST, GREATEST}) {
                    some.refused("count() for " + seats + by, BAD, x -> x.count(0, 0, seats));
                }
            }
        }
    }

    /** "BAD: also .. no CANDIDATES" */
    private static void noCandidates() {
        for (int kind = FIRST; kind <= BROKEN; kind++) {
            int k = kind;
            Edges none = new Edges(CHECKS, x -> {
                x.box(0, 1);
                x.put(0, 0, x.ballot(k == POINTS ? SCORED : RANKED, 1));
                x.method(k, 0, 255, NONE);
            });
            for (int seats : new int[] {0, 1, 30, 31}) {
                none.refused("count() for " + seats + " of none by " + k, BAD, x -> x.count(0, 0, seats));
            }
        }
    }

    private static void methodsAndBoxesThatAreNot() {
        for (int none : new int[] {-1, 4, 8, 19, 20, NONE, LEAST, GREATEST}) {
            ORDINARY.refused("count(" + none + ", 1, 1)", BAD, x -> x.count(none, 1, 1));
            ORDINARY.refused("count(0, " + none + ", 1)", BAD, x -> x.count(0, none, 1));
            ORDINARY.refused("count(3, " + none + ", 1) starts nothing", BAD, x -> x.count(3, none, 1));
        }
        for (int seats : new int[] {0, -1, 4, 30, 31, NONE, LEAST, GREATEST}) {
            ORDINARY.refused("count(0, 1, " + seats + ")", BAD, x -> x.count(0, 1, seats));
            ORDINARY.refused("count(3, 3, " + seats + ") starts nothing", BAD, x -> x.count(3, 3, seats));
        }
        ORDINARY.refused("count() of all that is least", BAD, x -> x.count(LEAST, LEAST, LEAST));
        ORDINARY.refused("count() of all that is greatest", BAD, x -> x.count(GREATEST, GREATEST, GREATEST));
    }

    /** BAD ahead of STATE (nothing is tried then), of UNLIKE, of SPENT. */
    private static void badIsAheadOfAll() {
        for (int seats : new int[] {0, 5, 31}) {
            SPENDING.refused("BAD ahead of STATE", BAD, x -> x.count(2, 0, seats));
            SPENDING.refused("BAD ahead of STATE, by a NEED", BAD, x -> x.count(3, 0, seats));
            SPENDING.refused("BAD ahead of UNLIKE", BAD, x -> x.count(1, 1, seats));
            SPENDING.refused("BAD ahead of SPENT", BAD, x -> x.count(0, 0, seats));
        }
        SPENDING.refused("the BOX: BAD ahead of STATE", BAD, x -> x.count(2, 2, 1));
        SPENDING.refused("the BOX: BAD ahead of STATE, by a NEED", BAD, x -> x.count(3, -1, 1));
    }

    /** "STATE: it has failed (it stays tried)" */
    private static void stateStaysTried() {
        ORDINARY.refusedAs("count(1, 1, 1) by a BROKEN one", STATE, x -> x.count(1, 1, 1), x -> x.start(1));
        ORDINARY.refusedAs("count(2, 1, 1) by one whose NEED fails", STATE, x -> x.count(2, 1, 1), x -> x.start(2));
        Edges failed = new Edges(CHECKS, x -> {
            House.ordinary(x);
            x.start(2);
        });
        failed.refused("count(2, 1, 1) by one that has failed before", STATE, x -> x.count(2, 1, 1));
        failed.refused("count(1, 1, 3) by a NEED that has failed", STATE, x -> x.count(1, 1, 3));
        failed.taken("count(0, 1, 1): it fails alone", 1, x -> x.count(0, 1, 1));
        BallotHouse y = ORDINARY.taken("count(2, 1, 1)", STATE, x -> x.count(2, 1, 1));
        CHECKS.due("methodOf(2, 2)", y.methodOf(2, 2), 1);
        CHECKS.due("methodOf(2, 1)", y.methodOf(2, 1), 2);
        CHECKS.due("methodOf(1, 2)", y.methodOf(1, 2), 1);
        CHECKS.due("methodOf(3, 2)", y.methodOf(3, 2), 0);
    }

    private static void stateIsAheadOfUnlikeAndSpent() {
        SPENDING.refusedAs("STATE ahead of UNLIKE", STATE, x -> x.count(3, 1, 2), x -> x.start(3));
        SPENDING.refusedAs("STATE ahead of SPENT", STATE, x -> x.count(3, 0, 2), x -> x.start(3));
        SPENDING.refusedAs("STATE ahead of UNLIKE, BROKEN", STATE, x -> x.count(2, 1, 1), x -> x.start(2));
    }

    /** It was to START ahead of the count, so that it is started however the count goes. */
    private static void spentStaysStarted() {
        SPENDING.refusedAs("count(0, 0, 2)", SPENT, x -> x.count(0, 0, 2), x -> x.start(0));
        Edges counted = new Edges(CHECKS, x -> {
            spending(x);
            x.count(1, 0, 3);
        });
        counted.refusedAs("count(0, 0, 2) behind one that was done", SPENT, x -> x.count(0, 0, 2), x -> x.start(0));
        Edges spent = new Edges(CHECKS, x -> {
            spending(x);
            x.count(0, 0, 2);
        });
        spent.refused("count(0, 0, 2) once more", SPENT, x -> x.count(0, 0, 2));
        spent.taken("count(1, 0, 2) behind one that was SPENT", 2, x -> x.count(1, 0, 2));
    }

    /** "the first that is none: UNLIKE (and where() tells it)": at each end, and the first of two. */
    private static void unlikeAtTheEndsOfABox() {
        int[][] lying = {{0}, {39}, {0, 39}, {38, 39}, {20, 21, 39}};
        for (int[] places : lying) {
            Edges some = new Edges(CHECKS, x -> {
                House.ordinary(x);
                x.box(0, 40);
                for (int i = 0; i < 40; i++) {
                    x.put(4, i, 1);
                }
                for (int place : places) {
                    x.put(4, place, 0);
                }
            });
            some.unlike("count() of a PAPER at " + places[0], places[0], 0, x -> x.count(0, 4, 1));
        }
    }

    private static void unlikeByEachKind() {
        for (int kind = FIRST; kind < BROKEN; kind++) {
            int k = kind;
            for (int sort = 0; sort < 4; sort++) {
                int s = sort;
                Edges some = new Edges(CHECKS, x -> {
                    House.ordinary(x);
                    x.method(k, 9, 128, 0);
                    House.boxOf(x, 0, NONE, k == POINTS ? 3 : 1, s, 0);
                });
                boolean fits = k == POINTS ? s == SCORED : s == RANKED || s == SINGLE;
                some.unlike("count() by " + k + " of sort " + s, fits ? 3 : 2, 4, x -> x.count(4, 4, 1));
            }
        }
    }

    /** "UNLIKE is looked at first, all BALLOTS ahead of any sum" */
    private static void unlikeIsAheadOfSpent() {
        SPENDING.unlike("count(0, 1, 2)", 2, 0, x -> x.count(0, 1, 2));
    }

    private static void anEmptyPlaceIsNotUnlike() {
        for (int kind = FIRST; kind < BROKEN; kind++) {
            int k = kind;
            Edges some = new Edges(CHECKS, x -> {
                House.ordinary(x);
                x.put(0, 0, NONE);
                x.put(0, 2, NONE);
                x.put(0, 3, k == POINTS ? 3 : 1);
                x.method(k, 0, 0, NONE);
            });
            BallotHouse x = some.taken("count() by " + k + " with empty places", 1, y -> y.count(4, 0, 1));
            CHECKS.due("where()", x.where(), NONE);
        }
    }

    /** "each count(), also one that is BAD, STATE, SPENT or done, is the latest then" */
    private static void whereIsOfTheLatestCount() {
        Edges unlike = new Edges(CHECKS, x -> {
            spending(x);
            x.count(1, 1, 1);
        });
        unlike.told("where()", 2, x -> x.where());
        int[][] others = {{1, 0, 0, BAD}, {1, 0, 31, BAD}, {4, 0, 1, BAD}, {1, 2, 1, BAD}, {LEAST, 0, 1, BAD},
            {2, 0, 1, STATE}, {3, 1, 1, STATE}, {0, 0, 2, SPENT}, {1, 0, 1, 1}, {0, 0, 4, 4}};
        for (int[] p : others) {
            String call = "count(" + p[0] + ", " + p[1] + ", " + p[2] + ") behind one that was UNLIKE";
            BallotHouse x = unlike.taken(call, p[3], y -> y.count(p[0], p[1], p[2]));
            CHECKS.due("where()", x.where(), NONE);
            CHECKS.due("where() again", x.where(), NONE);
        }
        BallotHouse x = new BallotHouse();
        spending(x);
        x.put(1, 0, NONE);
        x.count(1, 1, 1);
        x.put(1, 0, 2);
        CHECKS.due("where(): of the count, not of the box now", x.where(), 2);
        CHECKS.due("count()", x.count(1, 1, 1), FINDING);
        CHECKS.due("where()", x.where(), 0);
    }

    private static void whereStaysByOtherCalls() {
        BallotHouse x = new BallotHouse();
        spending(x);
        x.count(1, 1, 1);
        long[] answers = {x.stand(), x.draw(0, 1), x.drawn(0), x.ballot(3, 1), x.ballot(9, 9), x.rank(0, 3),
            x.rank(3, 0), x.score(3, 0, 1), x.score(0, 0, 1), x.told(0, 0), x.is(0, 0), x.box(0, 3), x.box(0, -1),
            x.put(1, 2, NONE), x.put(1, 9, 0), x.pour(0, 0, 1, 0, 2), x.at(1, 2), x.share(1, 0), x.weight(3, 0),
            x.method(0, 0, 0, NONE), x.methodOf(0, 0), x.under(0, 0), x.start(0), x.start(2), x.find(0), x.find(-1),
            x.seat(0), x.rounds(), x.round(0, 0), x.tally(0, 0, true), x.many(0), x.finding(), x.findings(3),
            x.digest()};
        CHECKS.due("calls made", answers.length, 34);
        CHECKS.due("where() behind all of them", x.where(), 2);
    }
}
