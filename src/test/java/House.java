/** Short ways to fill a BallotHouse for a test. */
final class House {
    static final int NONE = BallotHouse.NONE;

    private House() {
    }

    static BallotHouse with(int candidates) {
        BallotHouse x = new BallotHouse();
        for (int c = 0; c < candidates; c++) {
            x.stand();
        }
        return x;
    }

    static int ranked(BallotHouse x, int papers, int... order) {
        int ballot = x.ballot(1, papers);
        for (int c : order) {
            x.rank(ballot, c);
        }
        return ballot;
    }

    static int scored(BallotHouse x, int papers, int... points) {
        int ballot = x.ballot(3, papers);
        for (int c = 0; c < points.length; c++) {
            x.score(ballot, c, points[c]);
        }
        return ballot;
    }

    /** A box of a sort with just these ballots. */
    static int boxOf(BallotHouse x, int sort, int... ballots) {
        int box = x.box(sort, ballots.length);
        for (int i = 0; i < ballots.length; i++) {
            x.put(box, i, ballots[i]);
        }
        return box;
    }

    /**
     * Something of all: ballots 0 to 6 are a PAPER, RANKED, SINGLE, SCORED, a RANKED and a
     * SINGLE without anyone, a SCORED without points; boxes 0 to 3 are for the four sorts,
     * with 4, 3, 1 and 2 places; methods 0 to 3 are FIRST, a BROKEN one, a WAYS that needs it,
     * POINTS, of which only the first is begun. Box 1 was counted for 2 seats.
     */
    static void ordinary(BallotHouse x) {
        for (int c = 0; c < 3; c++) {
            x.stand();
        }
        x.draw(0, 1);
        x.ballot(0, 2);
        ranked(x, 5, 2, 0);
        x.ballot(2, 4);
        x.rank(2, 1);
        scored(x, 3, 4, 0, 5);
        x.ballot(1, 7);
        x.ballot(2, 1);
        x.ballot(3, 6);
        boxOf(x, 0, 0, NONE, 3, 1);
        boxOf(x, 1, 1, 2, NONE);
        boxOf(x, 2, 2);
        boxOf(x, 3, NONE, 3);
        x.method(0, 5, 1, NONE);
        x.method(8, 6, 2, 0);
        x.method(4, 7, 6, 1);
        x.method(1, -3, 12, NONE);
        x.count(0, 1, 2);
    }

    static int method(BallotHouse x, int kind) {
        return x.method(kind, 0, 0, NONE);
    }

    static long digestOf(long... values) {
        long h = 17;
        for (long v : values) {
            h = 31 * h + v;
        }
        return h;
    }
}
