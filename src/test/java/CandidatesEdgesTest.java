/** The edges of promises 1 to 4, and of the sentences on CANDIDATES and THE DRAW. */
public final class CandidatesEdgesTest {
    private static final int BAD = -1, FULL = -2, NONE = -9;
    private static final int LEAST = Integer.MIN_VALUE, GREATEST = Integer.MAX_VALUE;
    private static final Checks CHECKS = new Checks();
    private static final Edges EMPTY = new Edges(CHECKS, x -> { });
    private static final Edges ORDINARY = new Edges(CHECKS, House::ordinary);

    public static void main(String[] args) {
        aNewObjectHasNothingToWorkOn();
        aNewObjectTellsOfNothing();
        objectsAreApart();
        tenStandAtMost();
        theDrawIsAsTheyCame();
        oneThatComesIsTheLastInTheDraw();
        theEndsOfTheDrawChange();
        noPlaceOfTheDraw();
        aPlaceBelongsToTheDrawAsSoonAsOneStands();
        CHECKS.end();
    }

    /** "No CANDIDATES", and so nothing that a call could be about. */
    private static void aNewObjectHasNothingToWorkOn() {
        EMPTY.refused("draw(0, 0)", BAD, x -> x.draw(0, 0));
        EMPTY.refused("drawn(0)", BAD, x -> x.drawn(0));
        EMPTY.refused("rank(0, 0)", BAD, x -> x.rank(0, 0));
        EMPTY.refused("score(0, 0, 0)", BAD, x -> x.score(0, 0, 0));
        EMPTY.refused("told(0, 0)", BAD, x -> x.told(0, 0));
        EMPTY.refused("is(0, 0)", BAD, x -> x.is(0, 0));
        EMPTY.refused("put(0, 0, NONE)", BAD, x -> x.put(0, 0, NONE));
        EMPTY.refused("pour(0, 0, 0, 0, 0)", BAD, x -> x.pour(0, 0, 0, 0, 0));
        EMPTY.refused("at(0, 0)", BAD, x -> x.at(0, 0));
        EMPTY.refused("share(0, 0)", BAD, x -> x.share(0, 0));
        EMPTY.refused("weight(0, 0)", BAD, x -> x.weight(0, 0));
        EMPTY.refused("methodOf(0, 0)", BAD, x -> x.methodOf(0, 0));
        EMPTY.refused("under(0, 0)", BAD, x -> x.under(0, 0));
        EMPTY.refused("start(0)", BAD, x -> x.start(0));
        EMPTY.refused("count(0, 0, 1)", BAD, x -> x.count(0, 0, 1));
        EMPTY.refused("method() that needs 0", BAD, x -> x.method(0, 0, 0, 0));
    }

    private static void aNewObjectTellsOfNothing() {
        for (int mark = 0; mark < 8; mark++) {
            int m = mark;
            EMPTY.told("find(" + m + ")", NONE, x -> x.find(m));
        }
        EMPTY.told("where()", NONE, x -> x.where());
        EMPTY.told("seat(0)", NONE, x -> x.seat(0));
        EMPTY.told("rounds()", 0, x -> x.rounds());
        EMPTY.told("round(0, 0)", NONE, x -> x.round(0, 0));
        EMPTY.told("round(0, 1)", NONE, x -> x.round(0, 1));
        EMPTY.told("round(0, 2)", BAD, x -> x.round(0, 2));
        EMPTY.told("tally(0, 0, false)", BAD, x -> x.tally(0, 0, false));
        EMPTY.told("finding()", 0, x -> x.finding());
        EMPTY.told("digest()", 17, x -> x.digest());
        for (int what = 0; what <= 4; what++) {
            int w = what;
            EMPTY.told("many(" + w + ")", 0, x -> x.many(w));
        }
        for (int finding = 1; finding <= 6; finding++) {
            int f = finding;
            EMPTY.told("findings(" + f + ")", 0, x -> x.findings(f));
        }
        EMPTY.taken("stand()", 0, x -> x.stand());
        EMPTY.taken("ballot(0, 1)", 0, x -> x.ballot(0, 1));
        EMPTY.taken("box(0, 0)", 0, x -> x.box(0, 0));
        EMPTY.taken("method(0, 0, 0, NONE)", 0, x -> x.method(0, 0, 0, NONE));
    }

    private static void objectsAreApart() {
        BallotHouse before = new BallotHouse();
        BallotHouse filled = new BallotHouse();
        House.ordinary(filled);
        filled.at(0, 9);
        BallotHouse behind = new BallotHouse();
        for (BallotHouse x : new BallotHouse[] {before, behind}) {
            CHECKS.due("digest() of another object", x.digest(), 17);
            CHECKS.due("rounds() of another object", x.rounds(), 0);
            CHECKS.due("finding() of another object", x.finding(), 0);
            CHECKS.due("stand() of another object", x.stand(), 0);
        }
    }

    /** "CANDIDATES 0, 1, .. (10 at most)." */
    private static void tenStandAtMost() {
        for (int n = 0; n <= 9; n++) {
            int before = n;
            Edges some = new Edges(CHECKS, x -> stand(x, before));
            BallotHouse x = some.taken("stand() of one more than " + n, n, y -> y.stand());
            CHECKS.due("many(0)", x.many(0), n + 1);
            CHECKS.due("drawn(" + n + ")", x.drawn(n), n);
        }
        Edges ten = new Edges(CHECKS, x -> stand(x, 10));
        ten.refused("stand() of an eleventh", FULL, x -> x.stand());
        Edges refusedOnce = new Edges(CHECKS, x -> stand(x, 11));
        refusedOnce.refused("stand() of an eleventh again", FULL, x -> x.stand());
    }

    private static void stand(BallotHouse x, int times) {
        for (int c = 0; c < times; c++) {
            x.stand();
        }
    }

    /** "THE DRAW is a row of all of them: as they came, at first." */
    private static void theDrawIsAsTheyCame() {
        BallotHouse x = House.with(10);
        for (int i = 0; i < 10; i++) {
            CHECKS.due("drawn(" + i + ")", x.drawn(i), i);
        }
    }

    /** "A CANDIDATE comes, the last one in THE DRAW": also behind one that was drawn elsewhere. */
    private static void oneThatComesIsTheLastInTheDraw() {
        BallotHouse x = House.with(9);
        x.draw(8, 0);
        CHECKS.due("stand()", x.stand(), 9);
        CHECKS.due("drawn(9)", x.drawn(9), 9);
        CHECKS.due("drawn(8)", x.drawn(8), 0);
        CHECKS.due("drawn(0)", x.drawn(0), 8);
    }

    /** "Two places of THE DRAW change": the first and the last one, and one with itself. */
    private static void theEndsOfTheDrawChange() {
        for (int n = 1; n <= 10; n++) {
            int last = n - 1;
            Edges some = new Edges(CHECKS, x -> stand(x, last + 1));
            BallotHouse x = some.taken("draw(0, " + last + ")", 1, y -> y.draw(0, last));
            CHECKS.due("drawn(0)", x.drawn(0), last);
            CHECKS.due("drawn(last)", x.drawn(last), 0);
            for (int i = 1; i < last; i++) {
                CHECKS.due("drawn(" + i + ")", x.drawn(i), i);
            }
            CHECKS.due("draw(last, 0)", x.draw(last, 0), 1);
            CHECKS.due("drawn(0)", x.drawn(0), 0);
            CHECKS.due("drawn(last)", x.drawn(last), last);
            long before = x.digest();
            CHECKS.due("draw(last, last)", x.draw(last, last), 1);
            CHECKS.due("draw(0, 0)", x.draw(0, 0), 1);
            CHECKS.due("digest()", x.digest(), before);
        }
    }

    private static void noPlaceOfTheDraw() {
        for (int none : new int[] {-1, 3, 9, 10, NONE, LEAST, GREATEST}) {
            ORDINARY.refused("draw(" + none + ", 0)", BAD, x -> x.draw(none, 0));
            ORDINARY.refused("draw(2, " + none + ")", BAD, x -> x.draw(2, none));
            ORDINARY.refused("draw(" + none + ", the same)", BAD, x -> x.draw(none, none));
            ORDINARY.refused("drawn(" + none + ")", BAD, x -> x.drawn(none));
        }
        Edges ten = new Edges(CHECKS, x -> stand(x, 10));
        ten.refused("draw(10, 9)", BAD, x -> x.draw(10, 9));
        ten.refused("draw(9, 10)", BAD, x -> x.draw(9, 10));
        ten.refused("drawn(10)", BAD, x -> x.drawn(10));
        ten.told("drawn(9)", 9, x -> x.drawn(9));
        ten.told("drawn(0)", 0, x -> x.drawn(0));
    }

    private static void aPlaceBelongsToTheDrawAsSoonAsOneStands() {
        BallotHouse x = new BallotHouse();
        for (int n = 0; n < 10; n++) {
            CHECKS.due("drawn() ahead of stand()", x.drawn(n), BAD);
            CHECKS.due("draw() ahead of stand()", x.draw(n, n), BAD);
            x.stand();
            CHECKS.due("drawn() behind stand()", x.drawn(n), n);
            CHECKS.due("draw() behind stand()", x.draw(n, n), 1);
        }
    }
}
