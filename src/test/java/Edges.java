import java.util.ArrayList;
import java.util.List;

/**
 * Makes one call at an edge on a house of its own, and compares that house with another
 * one, filled alike, that the call was not made on. So no house gets more than the 512
 * calls that the document speaks of, and nothing that a refused call changed can hide.
 */
final class Edges {
    interface Filling {
        void fill(BallotHouse x);
    }

    interface Call {
        long of(BallotHouse x);
    }

    private static final int UNLIKE = 3;

    private final Checks checks;
    private final Filling filling;

    Edges(Checks checks, Filling filling) {
        this.checks = checks;
        this.filling = filling;
    }

    private BallotHouse filled() {
        BallotHouse x = new BallotHouse();
        filling.fill(x);
        return x;
    }

    /** A call that is not refused: it adds no FINDING. */
    BallotHouse taken(String call, long want, Call made) {
        BallotHouse with = filled();
        BallotHouse without = filled();
        checks.due(call, made.of(with), want);
        findings(call, with, without, 0);
        return with;
    }

    /** A call that only tells something: it changes nothing at all. */
    void told(String call, long want, Call made) {
        refusedAs(call, want, made, x -> 0);
    }

    /** Refused by BAD, FULL, STATE or SPENT: nothing changes. */
    void refused(String call, long want, Call made) {
        refusedAs(call, want, made, x -> 0);
    }

    /** Refused, but what another call does to a house stays done. */
    void refusedAs(String call, long want, Call made, Call likewise) {
        BallotHouse with = filled();
        BallotHouse without = filled();
        checks.due(call, made.of(with), want);
        likewise.of(without);
        compare(call, with, without, 0);
    }

    /** Refused by a FINDING: nothing changes but finding() and findings(). */
    void found(String call, int finding, Call made) {
        foundAs(call, finding, made, x -> 0);
    }

    void foundAs(String call, int finding, Call made, Call likewise) {
        BallotHouse with = filled();
        BallotHouse without = filled();
        checks.due(call, made.of(with), BallotHouse.FINDING);
        likewise.of(without);
        compare(call, with, without, finding);
    }

    /** A count that is UNLIKE: where() tells the place, and the method that was to START stays so. */
    void unlike(String call, int place, int method, Call made) {
        BallotHouse with = filled();
        BallotHouse without = filled();
        checks.due(call, made.of(with), BallotHouse.FINDING);
        without.start(method);
        checks.due("where() behind " + call, with.where(), place);
        compareAll(call, with, without, UNLIKE);
    }

    private void compare(String call, BallotHouse with, BallotHouse without, int finding) {
        checks.due("where() behind " + call, with.where(), without.where());
        compareAll(call, with, without, finding);
    }

    private void compareAll(String call, BallotHouse with, BallotHouse without, int finding) {
        findings(call, with, without, finding);
        List<String> seen = view(with);
        List<String> want = view(without);
        checks.due("answers seen behind " + call, seen.size(), want.size());
        for (int i = 0; i < Math.min(seen.size(), want.size()); i++) {
            checks.holds("behind " + call + ": " + seen.get(i) + ", without it " + want.get(i),
                seen.get(i).equals(want.get(i)));
        }
    }

    private void findings(String call, BallotHouse with, BallotHouse without, int finding) {
        checks.due("finding() behind " + call, with.finding(), finding == 0 ? without.finding() : finding);
        for (int f = 1; f <= 6; f++) {
            checks.due("findings(" + f + ") behind " + call, with.findings(f),
                without.findings(f) + (f == finding ? 1 : 0));
        }
    }

    /** All that calls tell of a house; the last ones change it, but each house in the same way. */
    private static List<String> view(BallotHouse x) {
        List<String> seen = new ArrayList<>();
        for (int what = 0; what <= 4; what++) {
            seen.add("many(" + what + ") " + x.many(what));
        }
        seen.add("digest() " + x.digest());
        viewResult(x, seen);
        viewSorts(x, seen);
        viewMarks(x, seen);
        return seen;
    }

    private static void viewResult(BallotHouse x, List<String> seen) {
        for (int i = 0; i < x.many(4); i++) {
            seen.add("seat(" + i + ") " + x.seat(i));
        }
        int rounds = x.rounds();
        seen.add("rounds() " + rounds);
        for (int i = 0; i < Math.min(rounds, 5); i++) {
            seen.add("round(" + i + ", 0) " + x.round(i, 0));
            seen.add("round(" + i + ", 1) " + x.round(i, 1));
            for (int c = 0; c < x.many(0); c++) {
                seen.add("tally(" + i + ", " + c + ") " + x.tally(i, c, false) + " by " + x.tally(i, c, true));
            }
        }
    }

    /** No call tells the sort of a box: only what it takes. */
    private static void viewSorts(BallotHouse x, List<String> seen) {
        int boxes = x.many(2);
        for (int b = 1; b < boxes; b++) {
            seen.add("pour(0, 0, " + b + ", 0, 0) " + x.pour(0, 0, b, 0, 0));
        }
        for (int b = 0; b < boxes; b++) {
            for (int ballot = 0; ballot < Math.min(x.many(1), 6); ballot++) {
                seen.add("put(" + b + ", 0, " + ballot + ") " + x.put(b, 0, ballot));
            }
        }
    }

    /** No call tells the marks and the rank of a method: only which one is found. */
    private static void viewMarks(BallotHouse x, List<String> seen) {
        for (int mark = 0; mark < 8; mark++) {
            seen.add("find(" + mark + ") " + x.find(mark));
        }
        seen.add("digest() behind all this " + x.digest());
    }
}
