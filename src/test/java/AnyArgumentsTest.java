import java.util.ArrayList;
import java.util.Arrays;
import java.util.List;

/**
 * Rules 7 and 13 of LANGUAGE.md: each call, with all edges for each of its numbers, in houses
 * that are new, begun, ordinary, full and spent, ends, throws nothing, answers what its promise
 * has, and does so each time.
 */
public final class AnyArgumentsTest {
    private static final int BAD = -1, FULL = -2, FINDING = -3, STATE = -4, SPENT = -6, NONE = -9;
    /** The document promises nothing of an object behind its 512th call. */
    private static final int MOST_CALLS = 512;
    private static final long MOST_MILLISECONDS = 300000;
    private static final int[] MANY_EDGES = {Integer.MIN_VALUE, Integer.MIN_VALUE + 1, -41, -10, -9, -2, -1, 0, 1, 2, 3,
        4, 7, 8, 9, 10, 11, 19, 20, 21, 29, 30, 31, 39, 40, 41, 59, 60, 61, 255, 256, 100000, 100001,
        Integer.MAX_VALUE - 1, Integer.MAX_VALUE};
    private static final int[] SOME_EDGES = {Integer.MIN_VALUE, -9, -1, 0, 1, 2, 7, 8, 19, 20, 39, 40, 41, 255, 256,
        Integer.MAX_VALUE};
    private static final int[] FEW_EDGES = {Integer.MIN_VALUE, -9, -1, 0, 1, 3, 39, 40, Integer.MAX_VALUE};
    private static final Checks CHECKS = new Checks();

    private interface Filling {
        /** Answers how many calls it made. */
        int fill(BallotHouse x);
    }

    private interface Call {
        long of(BallotHouse x, int[] p);
    }

    /** A call, how many numbers it takes, the greatest answer that it has, and its refusals. */
    private record Promise(String name, int takes, long greatest, int[] refusals, Call call) {
    }

    public static void main(String[] args) {
        endInTime();
        Filling[] fillings = {x -> 0, AnyArgumentsTest::one, AnyArgumentsTest::ordinary, AnyArgumentsTest::full,
            AnyArgumentsTest::spent};
        for (Filling filling : fillings) {
            for (Promise promise : promises()) {
                new Tries(filling, promise).all();
            }
        }
        CHECKS.end();
    }

    /** A call that fails to end would keep the test for ever. */
    private static void endInTime() {
        Thread watch = new Thread(() -> {
            try {
                Thread.sleep(MOST_MILLISECONDS);
            } catch (InterruptedException e) {
                return;
            }
            System.out.println("a call did not end");
            Runtime.getRuntime().halt(1);
        });
        watch.setDaemon(true);
        watch.start();
    }

    private static Promise promise(String name, int takes, long greatest, Call call, int... refusals) {
        return new Promise(name, takes, greatest, refusals, call);
    }

    private static List<Promise> promises() {
        List<Promise> all = new ArrayList<>();
        all.add(promise("stand", 0, 9, (x, p) -> x.stand(), FULL));
        all.add(promise("draw", 2, 1, (x, p) -> x.draw(p[0], p[1]), BAD));
        all.add(promise("drawn", 1, 9, (x, p) -> x.drawn(p[0]), BAD));
        all.add(promise("ballot", 2, 59, (x, p) -> x.ballot(p[0], p[1]), BAD, FULL));
        all.add(promise("rank", 2, 10, (x, p) -> x.rank(p[0], p[1]), BAD, STATE, FINDING));
        all.add(promise("score", 3, 9, (x, p) -> x.score(p[0], p[1], p[2]), BAD, FINDING));
        all.add(promise("told", 2, 100000, (x, p) -> x.told(p[0], p[1]), BAD, NONE));
        all.add(promise("is", 2, 1, (x, p) -> x.is(p[0], p[1]), BAD));
        all.add(promise("box", 2, 7, (x, p) -> x.box(p[0], p[1]), BAD, FULL, FINDING));
        all.add(promise("put", 3, 1, (x, p) -> x.put(p[0], p[1], p[2]), BAD, FINDING));
        all.add(promise("pour", 5, 1, (x, p) -> x.pour(p[0], p[1], p[2], p[3], p[4]), BAD, FINDING));
        all.add(promise("at", 2, 59, (x, p) -> x.at(p[0], p[1]), BAD, FINDING));
        all.add(promise("share", 2, 1000, (x, p) -> x.share(p[0], p[1]), BAD, FINDING));
        all.add(promise("weight", 2, 1000, (x, p) -> x.weight(p[0], p[1]), BAD, FINDING));
        all.add(promise("method", 4, 19, (x, p) -> x.method(p[0], p[1], p[2], p[3]), BAD, FULL));
        all.add(promise("methodOf", 2, 19, (x, p) -> x.methodOf(p[0], p[1]), BAD, NONE));
        all.add(promise("under", 2, 1, (x, p) -> x.under(p[0], p[1]), BAD));
        all.add(promise("start", 1, 2, (x, p) -> x.start(p[0]), BAD));
        all.add(promise("find", 1, 19, (x, p) -> x.find(p[0]), BAD, NONE));
        all.add(promise("count", 3, 30, (x, p) -> x.count(p[0], p[1], p[2]), BAD, STATE, SPENT, FINDING));
        all.add(promise("where", 0, 39, (x, p) -> x.where(), NONE));
        all.add(promise("seat", 1, 9, (x, p) -> x.seat(p[0]), NONE));
        all.add(promise("rounds", 0, 30, (x, p) -> x.rounds()));
        all.add(promise("round", 2, 9, (x, p) -> x.round(p[0], p[1]), BAD, NONE));
        all.add(promise("tally", 2, 1000000000, (x, p) -> x.tally(p[0], p[1], false), BAD, NONE));
        all.add(promise("tally below", 2, 1000000000, (x, p) -> x.tally(p[0], p[1], true), BAD, NONE));
        all.add(promise("many", 1, 60, (x, p) -> x.many(p[0]), BAD));
        all.add(promise("finding", 0, 6, (x, p) -> x.finding()));
        all.add(promise("findings", 1, MOST_CALLS, (x, p) -> x.findings(p[0]), BAD));
        // Any number may be a digest: here it is only to end, and to be the same of houses that are alike.
        all.add(promise("digest", 0, Long.MAX_VALUE, (x, p) -> x.digest() & Long.MAX_VALUE));
        return all;
    }

    private static int one(BallotHouse x) {
        x.stand();
        House.boxOf(x, 0, x.ballot(0, 1));
        x.method(8, Integer.MIN_VALUE, 255, NONE);
        return 5;
    }

    private static int ordinary(BallotHouse x) {
        House.ordinary(x);
        return 50;
    }

    /** As much of all as there may be, in boxes of all sizes; the latest count has 30 rounds. */
    private static int full(BallotHouse x) {
        for (int c = 0; c < 10; c++) {
            x.stand();
        }
        for (int b = 0; b < 60; b++) {
            x.ballot(b % 4, 100000 - b);
            x.rank(b, b % 10);
            x.score(b, b % 10, 1 + b % 9);
        }
        for (int b = 0; b < 8; b++) {
            x.box(b % 4, b < 4 ? 40 : b - 4);
            x.put(b, 0, 40 + b);
            x.put(b, 39, 4 + b);
        }
        for (int m = 0; m < 20; m++) {
            x.method(m % 9, m % 3 == 0 ? Integer.MAX_VALUE : -m, 1 << m % 8, m % 5 == 0 ? NONE : m - 1);
        }
        x.count(6, 1, 30);
        return 10 + 180 + 24 + 20 + 1;
    }

    /** TRANSFERS of papers that have no common divisors: the latest count is SPENT. */
    private static int spent(BallotHouse x) {
        for (int c = 0; c < 9; c++) {
            x.stand();
        }
        x.box(1, 40);
        for (int b = 0; b < 12; b++) {
            int ballot = x.ballot(1, 99991 - 30 * b);
            for (int c = 0; c < 6; c++) {
                x.rank(ballot, (b + c * (1 + b % 3)) % 9);
            }
            x.put(0, 3 * b, ballot);
        }
        x.method(5, 0, 1, NONE);
        x.count(0, 0, 1);
        CHECKS.due("count() of what grows too great", x.count(0, 0, 5), SPENT);
        return 9 + 1 + 12 * 8 + 3;
    }

    /** All edges of one call, on two houses that are filled alike, and made anew ahead of their last call. */
    private static final class Tries {
        private final Filling filling;
        private final Promise promise;
        private BallotHouse x;
        private BallotHouse y;
        private int left = 0;

        Tries(Filling filling, Promise promise) {
            this.filling = filling;
            this.promise = promise;
        }

        void all() {
            int[] edges = promise.takes() <= 2 ? MANY_EDGES : promise.takes() == 5 ? FEW_EDGES : SOME_EDGES;
            int[] p = new int[promise.takes()];
            int tries = (int) Math.pow(edges.length, promise.takes());
            for (int t = 0; t < tries; t++) {
                for (int k = 0, rest = t; k < p.length; k++, rest /= edges.length) {
                    p[k] = edges[rest % edges.length];
                }
                one(p);
            }
        }

        private void one(int[] p) {
            if (left == 0) {
                x = new BallotHouse();
                y = new BallotHouse();
                left = MOST_CALLS - filling.fill(x);
                filling.fill(y);
            }
            left--;
            String call = promise.name() + Arrays.toString(p);
            long got = promise.call().of(x, p);
            CHECKS.due(call + " made on another house", promise.call().of(y, p), got);
            CHECKS.holds(call + " answered " + got, isPromised(got));
        }

        private boolean isPromised(long got) {
            for (int refusal : promise.refusals()) {
                if (got == refusal) {
                    return true;
                }
            }
            return got >= 0 && got <= promise.greatest();
        }
    }
}
