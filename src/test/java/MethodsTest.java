/** Promises 16 to 20: method, methodOf, under, start, find. */
public final class MethodsTest {
    private static final int NONE = BallotHouse.NONE;
    private static final int BROKEN = 8;
    private static final int[] NO_METHOD = {-1, 20, -9, Integer.MIN_VALUE, Integer.MAX_VALUE};
    private static final Checks CHECKS = new Checks();

    public static void main(String[] args) {
        coming();
        lyingUnder();
        starting();
        failing();
        longNeeds();
        finding();
        findingAlike();
        findingRefused();
        CHECKS.end();
    }

    /** KIND, begun, TRIALS, NEED. */
    private static void method(BallotHouse x, int m, int... want) {
        for (int what = 0; what < want.length; what++) {
            CHECKS.due("methodOf(" + m + ", " + what + ")", x.methodOf(m, what), want[what]);
        }
    }

    private static void coming() {
        BallotHouse x = new BallotHouse();
        CHECKS.due("method(-1, ..)", x.method(-1, 0, 0, NONE), -1);
        CHECKS.due("method(9, ..)", x.method(9, 0, 0, NONE), -1);
        CHECKS.due("marks -1", x.method(0, 0, -1, NONE), -1);
        CHECKS.due("marks 256", x.method(0, 0, 256, NONE), -1);
        CHECKS.due("need 0, which is not there", x.method(0, 0, 0, 0), -1);
        CHECKS.due("need -1", x.method(0, 0, 0, -1), -1);
        CHECKS.due("many(3)", x.many(3), 0);
        for (int m = 0; m < 20; m++) {
            int need = m == 0 ? NONE : m - 1;
            CHECKS.due("method()", x.method(m % 9, m % 2 == 0 ? Integer.MIN_VALUE : Integer.MAX_VALUE, 255, need), m);
            method(x, m, m % 9, 0, 0, need);
            CHECKS.due("methodOf(m, -1)", x.methodOf(m, -1), -1);
            CHECKS.due("methodOf(m, 4)", x.methodOf(m, 4), -1);
            CHECKS.due("methodOf() of the next", x.methodOf(m + 1, 0), -1);
        }
        long before = x.digest();
        CHECKS.due("method() of a twenty-first", x.method(0, 0, 0, NONE), -2);
        CHECKS.due("BAD is ahead of FULL: kind", x.method(9, 0, 0, NONE), -1);
        CHECKS.due("BAD is ahead of FULL: marks", x.method(0, 0, 256, NONE), -1);
        CHECKS.due("BAD is ahead of FULL: need", x.method(0, 0, 0, 20), -1);
        CHECKS.due("many(3)", x.many(3), 20);
        CHECKS.due("digest()", x.digest(), before);
        for (int m : NO_METHOD) {
            CHECKS.due("methodOf(" + m + ", 0)", x.methodOf(m, 0), -1);
            CHECKS.due("under(" + m + ", 0)", x.under(m, 0), -1);
            CHECKS.due("start(" + m + ")", x.start(m), -1);
        }
        CHECKS.due("digest()", x.digest(), before);
    }

    private static void lyingUnder() {
        BallotHouse x = new BallotHouse();
        for (int kind = 0; kind <= 8; kind++) {
            x.method(kind, 0, 0, NONE);
            for (int above = 0; above <= 8; above++) {
                boolean is = kind == above || kind == 2 && above == 1 || kind == 6 && above == 0
                    || kind == 7 && (above == 6 || above == 0);
                CHECKS.due("under(" + kind + ", " + above + ")", x.under(kind, above), is ? 1 : 0);
            }
            CHECKS.due("under(kind, -1)", x.under(kind, -1), -1);
            CHECKS.due("under(kind, 9)", x.under(kind, 9), -1);
            CHECKS.due("under(kind, NONE)", x.under(kind, NONE), -1);
            method(x, kind, kind, 0, 0, NONE);
        }
    }

    private static void starting() {
        BallotHouse x = new BallotHouse();
        x.method(0, 0, 0, NONE);
        x.method(1, 0, 0, 0);
        x.method(2, 0, 0, 1);
        x.method(3, 0, 0, 0);
        CHECKS.due("start(1)", x.start(1), 1);
        method(x, 0, 0, 1, 1, NONE);
        method(x, 1, 1, 1, 1, 0);
        method(x, 2, 2, 0, 0, 1);
        method(x, 3, 3, 0, 0, 0);
        CHECKS.due("start(1) again", x.start(1), 1);
        method(x, 1, 1, 1, 1, 0);
        CHECKS.due("start(2)", x.start(2), 1);
        CHECKS.due("start(3)", x.start(3), 1);
        method(x, 0, 0, 1, 1, NONE);
        method(x, 3, 3, 1, 1, 0);
    }

    private static void failing() {
        BallotHouse x = new BallotHouse();
        x.method(0, 0, 0, NONE);
        x.method(BROKEN, 0, 0, 0);
        x.method(0, 0, 0, 1);
        x.method(4, 0, 0, 2);
        x.method(5, 0, 0, 1);
        x.method(5, 0, 0, 0);
        CHECKS.due("start(2), whose need is BROKEN", x.start(2), 2);
        method(x, 0, 0, 1, 1, NONE);
        method(x, 1, BROKEN, 2, 1, 0);
        method(x, 2, 0, 2, 1, 1);
        method(x, 3, 4, 0, 0, 2);
        CHECKS.due("start(3), whose need has failed before", x.start(3), 2);
        CHECKS.due("start(4)", x.start(4), 2);
        CHECKS.due("start(1)", x.start(1), 2);
        CHECKS.due("start(0): it fails alone", x.start(0), 1);
        CHECKS.due("start(5)", x.start(5), 1);
        method(x, 1, BROKEN, 2, 1, 0);
        method(x, 4, 5, 2, 1, 1);
    }

    private static void longNeeds() {
        BallotHouse x = new BallotHouse();
        BallotHouse y = new BallotHouse();
        for (int m = 0; m < 20; m++) {
            x.method(m == 0 ? BROKEN : 0, 0, 0, m == 0 ? NONE : m - 1);
            y.method(m == 12 ? BROKEN : 0, 0, 0, m == 0 ? NONE : m - 1);
        }
        CHECKS.due("start(19)", x.start(19), 2);
        CHECKS.due("start(19)", y.start(19), 2);
        for (int m = 0; m < 20; m++) {
            CHECKS.due("methodOf(m, 1)", x.methodOf(m, 1), 2);
            CHECKS.due("methodOf(m, 2)", x.methodOf(m, 2), 1);
            CHECKS.due("methodOf(m, 1)", y.methodOf(m, 1), m < 12 ? 1 : 2);
        }
    }

    private static void finding() {
        BallotHouse x = new BallotHouse();
        x.method(0, 1, 1 << 7, NONE);
        x.method(0, 3, 1 << 7 | 1, NONE);
        x.method(BROKEN, 9, 1 << 7, NONE);
        x.method(0, 7, 1 << 7, 2);
        x.method(0, 8, 1 << 3, NONE);
        CHECKS.due("find(7)", x.find(7), 1);
        method(x, 0, 0, 0, 0, NONE);
        method(x, 1, 0, 1, 1, NONE);
        method(x, 2, BROKEN, 2, 1, NONE);
        method(x, 3, 0, 2, 1, 2);
        method(x, 4, 0, 0, 0, NONE);
        CHECKS.due("find(7) again", x.find(7), 1);
        method(x, 0, 0, 0, 0, NONE);
        CHECKS.due("find(0)", x.find(0), 1);
        CHECKS.due("find(3)", x.find(3), 4);
        CHECKS.due("find(1): none has the mark", x.find(1), NONE);
        x.method(0, 4, 1 << 7, NONE);
        CHECKS.due("find(7), one of a greater rank came", x.find(7), 5);
    }

    private static void findingAlike() {
        BallotHouse x = new BallotHouse();
        CHECKS.due("find(0) without methods", x.find(0), NONE);
        x.method(0, Integer.MIN_VALUE, 1, NONE);
        x.method(BROKEN, 0, 1, NONE);
        x.method(0, 0, 1, NONE);
        x.method(0, 0, 1, NONE);
        x.method(BROKEN, Integer.MAX_VALUE, 3, NONE);
        CHECKS.due("find(0)", x.find(0), 2);
        method(x, 0, 0, 0, 0, NONE);
        method(x, 1, BROKEN, 2, 1, NONE);
        method(x, 3, 0, 0, 0, NONE);
        method(x, 4, BROKEN, 2, 1, NONE);
        CHECKS.due("find(1): all have failed", x.find(1), NONE);
        BallotHouse y = new BallotHouse();
        y.method(0, Integer.MIN_VALUE, 1, NONE);
        CHECKS.due("find(0) of the least rank", y.find(0), 0);
    }

    private static void findingRefused() {
        BallotHouse x = new BallotHouse();
        x.method(0, 0, 255, NONE);
        int[] noMark = {-1, 8, -9, 32, Integer.MIN_VALUE, Integer.MAX_VALUE};
        for (int mark : noMark) {
            CHECKS.due("find(" + mark + ")", x.find(mark), -1);
        }
        method(x, 0, 0, 0, 0, NONE);
        for (int mark = 0; mark < 8; mark++) {
            CHECKS.due("find(" + mark + ")", x.find(mark), 0);
        }
    }
}
