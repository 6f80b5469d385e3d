/** Promises 10 to 14: box, put, pour, at, share. */
public final class BoxesTest {
    private static final int[] NO_BOX = {-1, 8, -9, Integer.MIN_VALUE, Integer.MAX_VALUE};
    private static final Checks CHECKS = new Checks();

    public static void main(String[] args) {
        coming();
        putting();
        puttingRefused();
        pouring();
        pouringIntoItself();
        pouringAllPlaces();
        pouringRefused();
        lookingAt();
        sharing();
        CHECKS.end();
    }

    private static void coming() {
        BallotHouse x = new BallotHouse();
        CHECKS.due("box(-1, 1)", x.box(-1, 1), -1);
        CHECKS.due("box(4, 1)", x.box(4, 1), -1);
        CHECKS.due("box(4, -1): BAD is ahead of SIZE", x.box(4, -1), -1);
        CHECKS.due("box(0, 41)", x.box(0, 41), -1);
        CHECKS.due("box(0, greatest)", x.box(0, Integer.MAX_VALUE), -1);
        CHECKS.found(x, "box(0, -1)", 0, x.box(0, -1), 5);
        CHECKS.found(x, "box(0, least)", 1, x.box(0, Integer.MIN_VALUE), 5);
        CHECKS.due("many(2)", x.many(2), 0);
        int[] sizes = {0, 40, 1, 2, 3, 4, 5, 6};
        for (int b = 0; b < 8; b++) {
            CHECKS.due("box()", x.box(b % 4, sizes[b]), b);
            CHECKS.found(x, "at() behind the last place", b, x.at(b, sizes[b]), 2);
        }
        CHECKS.found(x, "at() of a new place", 0, x.at(1, 39), 1);
        CHECKS.due("box() of a ninth", x.box(0, 1), -2);
        CHECKS.due("FULL is ahead of SIZE", x.box(0, -1), -2);
        CHECKS.due("BAD is ahead of FULL", x.box(0, 41), -1);
        CHECKS.due("many(2)", x.many(2), 8);
        CHECKS.due("findings(5)", x.findings(5), 2);
    }

    private static void putting() {
        BallotHouse x = new BallotHouse();
        for (int sort = 0; sort < 4; sort++) {
            x.ballot(sort, 1);
            x.box(sort, 2);
        }
        int misfits = 0;
        for (int box = 0; box < 4; box++) {
            for (int ballot = 0; ballot < 4; ballot++) {
                String call = "put(" + box + ", 1, " + ballot + ")";
                if (x.is(ballot, box) == 1) {
                    CHECKS.due(call, x.put(box, 1, ballot), 1);
                    CHECKS.due("at() behind " + call, x.at(box, 1), ballot);
                } else {
                    int held = x.at(box, 1);
                    int before = x.findings(6);
                    CHECKS.found(x, call, before, x.put(box, 1, ballot), 6);
                    CHECKS.due("at() behind " + call, x.at(box, 1), held < 0 ? -3 : held);
                    misfits++;
                }
            }
        }
        CHECKS.due("misfits", misfits, 8);
        CHECKS.due("put(0, 0, 2)", x.put(0, 0, 2), 1);
        CHECKS.due("put(0, 1, 2): in several places", x.put(0, 1, 2), 1);
        CHECKS.due("at(0, 0)", x.at(0, 0), 2);
        CHECKS.due("at(0, 1)", x.at(0, 1), 2);
        CHECKS.due("put(0, 0, NONE)", x.put(0, 0, -9), 1);
        CHECKS.due("put(0, 0, NONE) again", x.put(0, 0, -9), 1);
        CHECKS.due("at(0, 0)", x.at(0, 0), -3);
        CHECKS.due("at(0, 1)", x.at(0, 1), 2);
    }

    private static void puttingRefused() {
        BallotHouse x = new BallotHouse();
        x.ballot(1, 1);
        x.ballot(3, 1);
        x.box(1, 3);
        x.put(0, 0, 0);
        long before = x.digest();
        for (int box : NO_BOX) {
            CHECKS.due("put(" + box + ", 0, 0)", x.put(box, 0, 0), -1);
        }
        CHECKS.due("put(1, 0, 0)", x.put(1, 0, 0), -1);
        int[] noBallot = {-1, 2, 60, -8, -10, Integer.MIN_VALUE, Integer.MAX_VALUE};
        for (int ballot : noBallot) {
            CHECKS.due("put(0, 0, " + ballot + ")", x.put(0, 0, ballot), -1);
            CHECKS.due("BAD is ahead of BEYOND", x.put(0, 3, ballot), -1);
        }
        int[] noPlace = {-1, 3, 40, -9, Integer.MIN_VALUE, Integer.MAX_VALUE};
        int times = 0;
        for (int i : noPlace) {
            CHECKS.found(x, "put(0, " + i + ", 0)", times++, x.put(0, i, 0), 2);
            CHECKS.found(x, "put(0, " + i + ", NONE)", times++, x.put(0, i, -9), 2);
            CHECKS.found(x, "BEYOND is ahead of MISFIT", times++, x.put(0, i, 1), 2);
        }
        CHECKS.due("findings(6)", x.findings(6), 0);
        CHECKS.due("digest()", x.digest(), before);
    }

    private static BallotHouse poured() {
        BallotHouse x = new BallotHouse();
        x.box(1, 5);
        x.box(1, 4);
        x.box(0, 5);
        for (int b = 0; b < 5; b++) {
            x.ballot(1, b + 1);
            x.put(0, b, b);
        }
        return x;
    }

    private static void places(BallotHouse x, int box, int... want) {
        for (int i = 0; i < want.length; i++) {
            CHECKS.due("at(" + box + ", " + i + ")", x.at(box, i), want[i]);
        }
    }

    private static void pouring() {
        BallotHouse x = poured();
        CHECKS.due("pour(0, 1, 1, 0, 3)", x.pour(0, 1, 1, 0, 3), 1);
        places(x, 1, 1, 2, 3, -3);
        places(x, 0, 0, 1, 2, 3, 4);
        x.put(0, 2, -9);
        CHECKS.due("pour() of an empty place, too", x.pour(0, 1, 1, 1, 3), 1);
        places(x, 1, 1, 1, -3, 3);
        CHECKS.due("pour() to the last place", x.pour(0, 4, 1, 3, 1), 1);
        places(x, 1, 1, 1, -3, 4);
        long before = x.digest();
        CHECKS.due("pour() of none", x.pour(0, 2, 1, 1, 0), 1);
        CHECKS.due("pour() of none from the end on", x.pour(0, 5, 1, 4, 0), 1);
        CHECKS.due("digest()", x.digest(), before);
        CHECKS.due("pour() of all", x.pour(1, 0, 0, 0, 4), 1);
        places(x, 0, 1, 1, -3, 4, 4);
    }

    private static void pouringIntoItself() {
        BallotHouse x = poured();
        CHECKS.due("pour() onwards", x.pour(0, 0, 0, 1, 4), 1);
        places(x, 0, 0, 0, 1, 2, 3);
        x = poured();
        CHECKS.due("pour() back", x.pour(0, 1, 0, 0, 4), 1);
        places(x, 0, 1, 2, 3, 4, 4);
        CHECKS.due("pour() onto the same", x.pour(0, 0, 0, 0, 5), 1);
        places(x, 0, 1, 2, 3, 4, 4);
    }

    private static void pouringAllPlaces() {
        BallotHouse x = new BallotHouse();
        int from = x.box(0, 40);
        int to = x.box(0, 40);
        for (int i = 0; i < 40; i++) {
            x.put(from, i, x.ballot(i % 4, 1));
        }
        CHECKS.due("pour() of 40", x.pour(from, 0, to, 0, 40), 1);
        for (int i = 0; i < 40; i++) {
            CHECKS.due("at(to, " + i + ")", x.at(to, i), i);
        }
        CHECKS.found(x, "pour() of 41", 0, x.pour(from, 0, to, 0, 41), 2);
    }

    private static void pouringRefused() {
        BallotHouse x = poured();
        long before = x.digest();
        for (int box : NO_BOX) {
            CHECKS.due("pour(" + box + ", ..)", x.pour(box, 0, 1, 0, 1), -1);
            CHECKS.due("pour(.., " + box + ", ..)", x.pour(0, 0, box, 0, 1), -1);
        }
        CHECKS.due("pour(3, ..)", x.pour(3, 0, 3, 0, 0), -1);
        CHECKS.due("BAD is ahead of BEYOND", x.pour(0, -1, 3, 0, 1), -1);
        CHECKS.found(x, "pour() to a box of a sort above", 0, x.pour(0, 0, 2, 0, 1), 6);
        CHECKS.found(x, "pour() to a box of a sort below", 1, x.pour(2, 0, 0, 0, 1), 6);
        CHECKS.found(x, "pour() of none is a MISFIT, too", 2, x.pour(0, 0, 2, 0, 0), 6);
        CHECKS.found(x, "MISFIT is ahead of BEYOND", 3, x.pour(0, -1, 2, 9, -1), 6);
        int greatest = Integer.MAX_VALUE;
        int[][] beyond = {{0, 0, -1}, {-1, 0, 1}, {0, -1, 1}, {-1, 0, 0}, {0, -1, 0}, {6, 0, 0}, {0, 5, 0},
            {5, 0, 1}, {0, 4, 1}, {1, 0, 5}, {0, 1, 4}, {0, 0, 5}, {0, 0, 6}, {1, 1, greatest},
            {greatest, 0, 1}, {0, greatest, 1}, {greatest, greatest, greatest}, {0, 0, Integer.MIN_VALUE},
            {Integer.MIN_VALUE, 0, 1}, {1, Integer.MIN_VALUE, 1}, {Integer.MIN_VALUE, 0, Integer.MIN_VALUE}};
        for (int b = 0; b < beyond.length; b++) {
            int[] p = beyond[b];
            String call = "pour(0, " + p[0] + ", 1, " + p[1] + ", " + p[2] + ")";
            CHECKS.found(x, call, b, x.pour(0, p[0], 1, p[1], p[2]), 2);
        }
        CHECKS.due("digest()", x.digest(), before);
    }

    private static void lookingAt() {
        BallotHouse x = poured();
        for (int box : NO_BOX) {
            CHECKS.due("at(" + box + ", 0)", x.at(box, 0), -1);
            CHECKS.due("share(" + box + ", 0)", x.share(box, 0), -1);
        }
        CHECKS.due("at(3, 0)", x.at(3, 0), -1);
        int[] noPlace = {-1, 5, 40, -9, Integer.MIN_VALUE, Integer.MAX_VALUE};
        int times = 0;
        for (int i : noPlace) {
            CHECKS.found(x, "at(0, " + i + ")", times++, x.at(0, i), 2);
            CHECKS.found(x, "share(0, " + i + ")", times++, x.share(0, i), 2);
        }
        CHECKS.found(x, "at() of an empty place", 0, x.at(1, 3), 1);
        CHECKS.found(x, "share() of an empty place", 1, x.share(1, 3), 1);
        CHECKS.due("at(0, 4)", x.at(0, 4), 4);
    }

    private static void sharing() {
        BallotHouse x = poured();
        CHECKS.due("share(0, 0) of 15 papers", x.share(0, 0), 66);
        CHECKS.due("share(0, 4) of 15 papers", x.share(0, 4), 333);
        x.put(0, 4, -9);
        CHECKS.due("share(0, 1) of 10 papers", x.share(0, 1), 200);
        x.put(0, 4, 1);
        CHECKS.due("share(0, 1) of 12 papers: in two places", x.share(0, 1), 166);
        x.put(1, 2, 3);
        CHECKS.due("share() of the only one", x.share(1, 2), 1000);
        int great = x.ballot(1, 100000);
        int full = x.box(1, 40);
        for (int i = 0; i < 40; i++) {
            x.put(full, i, great);
        }
        CHECKS.due("share() of 4000000 papers", x.share(full, 39), 25);
        x.put(full, 0, 0);
        CHECKS.due("share() of one paper of many", x.share(full, 0), 0);
    }
}
