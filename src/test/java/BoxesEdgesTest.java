/** The edges of promises 10 to 14, and of the sentences on BOXES. */
public final class BoxesEdgesTest {
    private static final int BAD = -1, FULL = -2, NONE = -9, FINDING = -3;
    private static final int LEAST = Integer.MIN_VALUE, GREATEST = Integer.MAX_VALUE;
    private static final int NOTHING = 1, BEYOND = 2, SIZE = 5, MISFIT = 6;
    private static final int[] NO_BOX = {-1, 4, 7, 8, NONE, LEAST, GREATEST};
    private static final int[] NO_SORT = {-1, 4, NONE, LEAST, GREATEST};
    private static final Checks CHECKS = new Checks();
    private static final Edges ORDINARY = new Edges(CHECKS, House::ordinary);
    /** Boxes of 0, 40, 1 and five more places for PAPERS; ballots 0 to 3 of the four sorts. */
    private static final Edges EIGHT = new Edges(CHECKS, BoxesEdgesTest::eight);

    public static void main(String[] args) {
        fromNoneToFortyPlaces();
        fewerThanNoPlaces();
        boxesOfTheFourSorts();
        eightBoxesAtMost();
        placesAreEmptyAtFirst();
        putAtTheEndsOfABox();
        putWhatIsNot();
        putBeyond();
        putWhereItDoesNotFit();
        putNoneTakesOut();
        pourUpToTheLastPlace();
        pourBeyond();
        pourOfNone();
        pourIntoItselfAtTheEnds();
        pourOfWhatIsNot();
        pourToAnotherSort();
        atAndShareOfWhatIsNot();
        atAndShareOfNothing();
        sharesAreCut();
        CHECKS.end();
    }

    private static void eight(BallotHouse x) {
        for (int sort = 0; sort < 4; sort++) {
            x.ballot(sort, 10 + sort);
        }
        for (int n : new int[] {0, 40, 1, 2, 3, 40, 5, 40}) {
            x.box(0, n);
        }
    }

    /** "rows of 0 to 40 places"; "BAD: also n above 40" */
    private static void fromNoneToFortyPlaces() {
        for (int places : new int[] {0, 1, 39, 40}) {
            for (int sort = 0; sort < 4; sort++) {
                int s = sort;
                BallotHouse x = ORDINARY.taken("box(" + s + ", " + places + ")", 4, y -> y.box(s, places));
                CHECKS.due("many(2)", x.many(2), 5);
                CHECKS.due("put() in the last place", x.put(4, places - 1, NONE), places == 0 ? FINDING : 1);
                CHECKS.due("put() behind the last place", x.put(4, places, NONE), FINDING);
                CHECKS.due("finding()", x.finding(), BEYOND);
            }
        }
        for (int places : new int[] {41, 42, 60, GREATEST}) {
            for (int sort = 0; sort < 4; sort++) {
                int s = sort;
                ORDINARY.refused("box(" + s + ", " + places + ")", BAD, x -> x.box(s, places));
            }
        }
    }

    /** "SIZE (fewer than none)" */
    private static void fewerThanNoPlaces() {
        for (int places : new int[] {-1, -2, NONE, LEAST}) {
            for (int sort = 0; sort < 4; sort++) {
                int s = sort;
                ORDINARY.found("box(" + s + ", " + places + ")", SIZE, x -> x.box(s, places));
            }
            for (int sort : NO_SORT) {
                ORDINARY.refused("box(" + sort + ", " + places + "): BAD ahead of SIZE", BAD,
                    x -> x.box(sort, places));
            }
        }
    }

    private static void boxesOfTheFourSorts() {
        for (int sort : NO_SORT) {
            for (int places : new int[] {0, 1, 40, 41}) {
                ORDINARY.refused("box(" + sort + ", " + places + ")", BAD, x -> x.box(sort, places));
            }
        }
        int[][] takes = {{1, 1, 1, 1}, {0, 1, 1, 0}, {0, 0, 1, 0}, {0, 0, 0, 1}};
        for (int sort = 0; sort < 4; sort++) {
            int s = sort;
            Edges one = new Edges(CHECKS, x -> {
                House.ordinary(x);
                x.box(s, 40);
            });
            for (int ballot = 0; ballot < 4; ballot++) {
                int b = ballot;
                String call = "put() of a ballot of sort " + b + " in a box for " + s;
                if (takes[s][b] == 1) {
                    CHECKS.due("at() behind " + call, one.taken(call, 1, x -> x.put(4, 39, b)).at(4, 39), b);
                } else {
                    one.found(call, MISFIT, x -> x.put(4, 39, b));
                }
            }
        }
    }

    /** "BOXES 0, 1, .. (8 at most)": BAD ahead of FULL, FULL ahead of SIZE. */
    private static void eightBoxesAtMost() {
        BallotHouse x = new BallotHouse();
        for (int b = 0; b < 8; b++) {
            CHECKS.due("many(2)", x.many(2), b);
            CHECKS.due("box()", x.box(b % 4, b), b);
        }
        for (int places : new int[] {0, 1, 40, -1, LEAST}) {
            EIGHT.refused("box(0, " + places + ") of a ninth", FULL, y -> y.box(0, places));
            EIGHT.refused("box(3, " + places + ") of a ninth", FULL, y -> y.box(3, places));
            EIGHT.refused("box(4, " + places + "): BAD ahead of FULL", BAD, y -> y.box(4, places));
        }
        EIGHT.refused("box(0, 41): BAD ahead of FULL", BAD, y -> y.box(0, 41));
        EIGHT.refused("box(0, greatest): BAD ahead of FULL", BAD, y -> y.box(0, GREATEST));
        EIGHT.taken("put(7, 39, 3)", 1, y -> y.put(7, 39, 3));
        EIGHT.refused("put(8, 0, 3)", BAD, y -> y.put(8, 0, 3));
        EIGHT.refused("at(8, 0)", BAD, y -> y.at(8, 0));
        EIGHT.refused("pour(7, 0, 8, 0, 0)", BAD, y -> y.pour(7, 0, 8, 0, 0));
        EIGHT.refused("pour(8, 0, 7, 0, 0)", BAD, y -> y.pour(8, 0, 7, 0, 0));
    }

    /** "empty at first": number 0 is a ballot, and does not lie there. */
    private static void placesAreEmptyAtFirst() {
        for (int place = 0; place < 40; place++) {
            int i = place;
            EIGHT.found("at(7, " + i + ") of a new box", NOTHING, x -> x.at(7, i));
        }
        EIGHT.found("share(1, 0) of a new box", NOTHING, x -> x.share(1, 0));
        EIGHT.found("share(1, 39) of a new box", NOTHING, x -> x.share(1, 39));
        EIGHT.found("at(0, 0) of a box without places", BEYOND, x -> x.at(0, 0));
        EIGHT.found("share(0, 0) of a box without places", BEYOND, x -> x.share(0, 0));
        EIGHT.found("put(0, 0, 0) of a box without places", BEYOND, x -> x.put(0, 0, 0));
        EIGHT.found("put(0, 0, NONE) of a box without places", BEYOND, x -> x.put(0, 0, NONE));
    }

    private static void putAtTheEndsOfABox() {
        for (int place : new int[] {0, 1, 38, 39}) {
            BallotHouse x = EIGHT.taken("put(5, " + place + ", 0)", 1, y -> y.put(5, place, 0));
            for (int i = 0; i < 40; i++) {
                CHECKS.due("at(5, " + i + ")", x.at(5, i), i == place ? 0 : FINDING);
            }
            CHECKS.due("at(1, ..) of another box", x.at(1, place), FINDING);
            CHECKS.due("at(7, ..) of another box", x.at(7, place), FINDING);
        }
        BallotHouse y = ORDINARY.taken("put(1, 0, 4) on another ballot", 1, x -> x.put(1, 0, 4));
        CHECKS.due("at(1, 0)", y.at(1, 0), 4);
    }

    /** BAD: the BOX, the BALLOT (but NONE): ahead of BEYOND and MISFIT. */
    private static void putWhatIsNot() {
        for (int box : NO_BOX) {
            ORDINARY.refused("put(" + box + ", 0, 1)", BAD, x -> x.put(box, 0, 1));
            ORDINARY.refused("put(" + box + ", 0, NONE)", BAD, x -> x.put(box, 0, NONE));
            ORDINARY.refused("put(" + box + ", -1, 1): BAD ahead of BEYOND", BAD, x -> x.put(box, -1, 1));
        }
        for (int ballot : new int[] {-1, -8, -10, 7, 59, 60, LEAST, GREATEST}) {
            ORDINARY.refused("put(1, 0, " + ballot + ")", BAD, x -> x.put(1, 0, ballot));
            ORDINARY.refused("put(1, 3, " + ballot + "): BAD ahead of BEYOND", BAD, x -> x.put(1, 3, ballot));
            ORDINARY.refused("put(1, -1, " + ballot + "): BAD ahead of BEYOND", BAD, x -> x.put(1, -1, ballot));
        }
    }

    /** "BEYOND; MISFIT (behind it)" */
    private static void putBeyond() {
        int[] places = {4, 3, 1, 2};
        for (int box = 0; box < 4; box++) {
            int b = box;
            for (int place : new int[] {-1, places[b], 39, 40, NONE, LEAST, GREATEST}) {
                ORDINARY.found("put(" + b + ", " + place + ", NONE)", BEYOND, x -> x.put(b, place, NONE));
                for (int ballot = 0; ballot < 4; ballot++) {
                    int held = ballot;
                    ORDINARY.found("put(" + b + ", " + place + ", " + held + "): BEYOND ahead of MISFIT", BEYOND,
                        x -> x.put(b, place, held));
                }
            }
        }
    }

    private static void putWhereItDoesNotFit() {
        for (int place = 0; place < 3; place++) {
            int i = place;
            ORDINARY.found("put(1, " + i + ", 0) of a PAPER", MISFIT, x -> x.put(1, i, 0));
            ORDINARY.found("put(1, " + i + ", 3) of a SCORED one", MISFIT, x -> x.put(1, i, 3));
        }
        ORDINARY.found("put(2, 0, 4) of a RANKED one that is empty", MISFIT, x -> x.put(2, 0, 4));
        ORDINARY.taken("put(2, 0, 5) of a SINGLE one that is empty", 1, x -> x.put(2, 0, 5));
    }

    /** "(NONE: it is empty)": one that was full, and one that was empty. */
    private static void putNoneTakesOut() {
        BallotHouse x = ORDINARY.taken("put(1, 0, NONE)", 1, y -> y.put(1, 0, NONE));
        CHECKS.due("at(1, 0)", x.at(1, 0), FINDING);
        CHECKS.due("finding()", x.finding(), NOTHING);
        CHECKS.due("at(1, 1)", x.at(1, 1), 2);
        ORDINARY.taken("put(1, 2, NONE) of an empty place", 1, y -> y.put(1, 2, NONE));
        ORDINARY.refusedAs("put(1, 2, NONE) changes nothing", 1, y -> y.put(1, 2, NONE), y -> 0);
    }

    /** Boxes 0 and 1 for RANKED ones of 40 and 3 places; ballots 0 to 2 lie in the last places of 0. */
    private static void fortyAndThree(BallotHouse x) {
        x.box(1, 40);
        x.box(1, 3);
        for (int b = 0; b < 3; b++) {
            x.put(0, 37 + b, x.ballot(1, 1 + b));
        }
    }

    private static void pourUpToTheLastPlace() {
        Edges some = new Edges(CHECKS, BoxesEdgesTest::fortyAndThree);
        BallotHouse x = some.taken("pour(0, 37, 1, 0, 3)", 1, y -> y.pour(0, 37, 1, 0, 3));
        places(x, 1, 0, 1, 2);
        x = some.taken("pour(0, 39, 1, 2, 1)", 1, y -> y.pour(0, 39, 1, 2, 1));
        places(x, 1, FINDING, FINDING, 2);
        x = some.taken("pour(0, 38, 1, 1, 2)", 1, y -> y.pour(0, 38, 1, 1, 2));
        places(x, 1, FINDING, 1, 2);
        x = some.taken("pour(1, 0, 0, 37, 3) of empty places", 1, y -> y.pour(1, 0, 0, 37, 3));
        CHECKS.due("at(0, 37)", x.at(0, 37), FINDING);
        CHECKS.due("at(0, 39)", x.at(0, 39), FINDING);
        x = EIGHT.taken("pour(1, 0, 7, 0, 40)", 1, y -> y.pour(1, 0, 7, 0, 40));
        CHECKS.due("at(7, 0)", x.at(7, 0), FINDING);
    }

    private static void places(BallotHouse x, int box, int... want) {
        for (int i = 0; i < want.length; i++) {
            CHECKS.due("at(" + box + ", " + i + ")", x.at(box, i), want[i]);
        }
    }

    /** "BEYOND: not so many there (a place, n below 0, too)" */
    private static void pourBeyond() {
        Edges some = new Edges(CHECKS, BoxesEdgesTest::fortyAndThree);
        int[][] beyond = {{38, 0, 3}, {37, 0, 4}, {37, 1, 3}, {39, 3, 1}, {40, 0, 1}, {0, 3, 1}, {0, 0, 4},
            {0, 0, 41}, {-1, 0, 1}, {-1, 0, 2}, {0, -1, 1}, {0, -1, 2}, {-1, -1, 1}, {0, 0, -1}, {1, 1, -1},
            {41, 0, -1}, {0, 4, -1}, {41, 0, 0}, {0, 4, 0}, {-1, 0, 0}, {0, -1, 0},
            {GREATEST, 0, 1}, {0, GREATEST, 1}, {0, 0, GREATEST}, {1, 1, GREATEST}, {GREATEST, GREATEST, GREATEST},
            {GREATEST, 0, 0}, {0, GREATEST, 0}, {LEAST, 0, 1}, {0, LEAST, 1}, {0, 0, LEAST}, {1, 1, LEAST},
            {LEAST, LEAST, LEAST}, {LEAST, 0, GREATEST}, {0, LEAST, GREATEST}, {GREATEST, 0, LEAST}};
        for (int[] p : beyond) {
            some.found("pour(0, " + p[0] + ", 1, " + p[1] + ", " + p[2] + ")", BEYOND,
                x -> x.pour(0, p[0], 1, p[1], p[2]));
            some.found("pour(1, " + p[1] + ", 0, " + p[0] + ", " + p[2] + ")", BEYOND,
                x -> x.pour(1, p[1], 0, p[0], p[2]));
        }
        some.found("pour(0, 1, 0, 0, 40)", BEYOND, x -> x.pour(0, 1, 0, 0, 40));
        some.found("pour(0, 0, 0, 1, 40)", BEYOND, x -> x.pour(0, 0, 0, 1, 40));
    }

    /** No place is taken, so none is missed; from one behind the last on, too. */
    private static void pourOfNone() {
        Edges some = new Edges(CHECKS, BoxesEdgesTest::fortyAndThree);
        for (int[] p : new int[][] {{0, 0}, {39, 2}, {40, 3}, {40, 0}, {0, 3}}) {
            some.refusedAs("pour(0, " + p[0] + ", 1, " + p[1] + ", 0)", 1, x -> x.pour(0, p[0], 1, p[1], 0), x -> 0);
        }
        EIGHT.refusedAs("pour(0, 0, 0, 0, 0) of a box without places", 1, x -> x.pour(0, 0, 0, 0, 0), x -> 0);
        EIGHT.refusedAs("pour(0, 0, 1, 40, 0) of a box without places", 1, x -> x.pour(0, 0, 1, 40, 0), x -> 0);
        EIGHT.found("pour(0, 0, 1, 0, 1) of a box without places", BEYOND, x -> x.pour(0, 0, 1, 0, 1));
        EIGHT.found("pour(1, 0, 0, 0, 1) to a box without places", BEYOND, x -> x.pour(1, 0, 0, 0, 1));
    }

    /** "(perhaps itself) .. as if taken ahead" */
    private static void pourIntoItselfAtTheEnds() {
        for (int[] way : new int[][] {{0, 1}, {1, 0}, {0, 0}}) {
            int n = way[0] == way[1] ? 40 : 39;
            BallotHouse x = new BallotHouse();
            x.box(1, 40);
            for (int i = 0; i < 40; i++) {
                x.put(0, i, x.ballot(1, 1));
            }
            CHECKS.due("pour() of " + n + " into itself", x.pour(0, way[0], 0, way[1], n), 1);
            for (int i = 0; i < 40; i++) {
                int from = i - way[1] + way[0];
                boolean came = i >= way[1] && i < way[1] + n;
                CHECKS.due("at(0, " + i + ")", x.at(0, i), came ? from : i);
            }
        }
    }

    private static void pourOfWhatIsNot() {
        for (int box : NO_BOX) {
            ORDINARY.refused("pour(" + box + ", 0, 1, 0, 1)", BAD, x -> x.pour(box, 0, 1, 0, 1));
            ORDINARY.refused("pour(1, 0, " + box + ", 0, 1)", BAD, x -> x.pour(1, 0, box, 0, 1));
            ORDINARY.refused("pour(" + box + ", 0, the same, 0, 0)", BAD, x -> x.pour(box, 0, box, 0, 0));
            ORDINARY.refused("BAD ahead of BEYOND", BAD, x -> x.pour(box, -1, 1, 9, -1));
            ORDINARY.refused("BAD ahead of BEYOND", BAD, x -> x.pour(1, LEAST, box, GREATEST, LEAST));
        }
    }

    /** "MISFIT: the other BOX is for another sort": one above or below is another, too. */
    private static void pourToAnotherSort() {
        for (int box = 0; box < 4; box++) {
            for (int other = 0; other < 4; other++) {
                int from = box;
                int to = other;
                String call = "pour() from a box for " + from + " to one for " + to;
                if (from == to) {
                    ORDINARY.taken(call, 1, x -> x.pour(from, 0, to, 0, 1));
                } else {
                    ORDINARY.found(call, MISFIT, x -> x.pour(from, 0, to, 0, 1));
                    ORDINARY.found(call + " of no places", MISFIT, x -> x.pour(from, 0, to, 0, 0));
                    ORDINARY.found(call + ", ahead of BEYOND", MISFIT, x -> x.pour(from, -1, to, 0, 1));
                    ORDINARY.found(call + ", ahead of BEYOND", MISFIT, x -> x.pour(from, 0, to, 9, 1));
                    ORDINARY.found(call + ", ahead of BEYOND", MISFIT, x -> x.pour(from, 0, to, 0, LEAST));
                }
            }
        }
    }

    /** "BAD; BEYOND; NOTHING" */
    private static void atAndShareOfWhatIsNot() {
        for (int box : NO_BOX) {
            ORDINARY.refused("at(" + box + ", 0)", BAD, x -> x.at(box, 0));
            ORDINARY.refused("at(" + box + ", -1): BAD ahead of BEYOND", BAD, x -> x.at(box, -1));
            ORDINARY.refused("share(" + box + ", 0)", BAD, x -> x.share(box, 0));
            ORDINARY.refused("share(" + box + ", 40): BAD ahead of BEYOND", BAD, x -> x.share(box, 40));
        }
        int[] places = {4, 3, 1, 2};
        for (int box = 0; box < 4; box++) {
            int b = box;
            for (int place : new int[] {-1, places[b], 39, 40, NONE, LEAST, GREATEST}) {
                ORDINARY.found("at(" + b + ", " + place + ")", BEYOND, x -> x.at(b, place));
                ORDINARY.found("share(" + b + ", " + place + ")", BEYOND, x -> x.share(b, place));
            }
        }
    }

    private static void atAndShareOfNothing() {
        ORDINARY.told("at(0, 0): ballot 0", 0, x -> x.at(0, 0));
        ORDINARY.told("at(0, 3): the last place", 1, x -> x.at(0, 3));
        ORDINARY.found("at(0, 1)", NOTHING, x -> x.at(0, 1));
        ORDINARY.found("at(1, 2): the last place", NOTHING, x -> x.at(1, 2));
        ORDINARY.found("at(3, 0): the first place", NOTHING, x -> x.at(3, 0));
        ORDINARY.found("share(0, 1)", NOTHING, x -> x.share(0, 1));
        ORDINARY.found("share(1, 2): the last place", NOTHING, x -> x.share(1, 2));
        ORDINARY.found("share(3, 0): the first place", NOTHING, x -> x.share(3, 0));
    }

    /** "A thousand times the papers .. by the papers of all in the BOX, cut." */
    private static void sharesAreCut() {
        ORDINARY.told("share(0, 0): 2 of 10", 200, x -> x.share(0, 0));
        ORDINARY.told("share(1, 0): 5 of 9", 555, x -> x.share(1, 0));
        ORDINARY.told("share(1, 1): 4 of 9", 444, x -> x.share(1, 1));
        ORDINARY.told("share(2, 0): 4 of 4", 1000, x -> x.share(2, 0));
        ORDINARY.told("share(3, 1): 3 of 3", 1000, x -> x.share(3, 1));
        BallotHouse x = new BallotHouse();
        int great = x.ballot(0, 100000);
        int small = x.ballot(0, 1);
        x.box(0, 40);
        for (int i = 0; i < 40; i++) {
            x.put(0, i, great);
        }
        CHECKS.due("100000 of 4000000", x.share(0, 39), 25);
        x.put(0, 0, small);
        CHECKS.due("1 of 3900001", x.share(0, 0), 0);
        CHECKS.due("100000 of 3900001", x.share(0, 1), 25);
        for (int i = 2; i < 40; i++) {
            x.put(0, i, NONE);
        }
        CHECKS.due("100000 of 100001", x.share(0, 1), 999);
        x.put(0, 1, small);
        CHECKS.due("1 of 2: a ballot in two places", x.share(0, 0), 500);
        x.put(0, 1, NONE);
        CHECKS.due("1 of 1", x.share(0, 0), 1000);
    }
}
