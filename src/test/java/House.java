/** Short ways to fill a BallotHouse for a test. */
final class House {
    static final int NONE = BallotHouse.NONE;

    private House() {
    }

    static BallotHouse with(int candidates) {
        BallotHouse x = new BallotHouse();
        for (int c = 0; c < candidates; c++) {
            x.stand();
        }
        return x;
    }

    static int ranked(BallotHouse x, int papers, int... order) {
        int ballot = x.ballot(1, papers);
        for (int c : order) {
            x.rank(ballot, c);
        }
        return ballot;
    }

    static int scored(BallotHouse x, int papers, int... points) {
        int ballot = x.ballot(3, papers);
        for (int c = 0; c < points.length; c++) {
            x.score(ballot, c, points[c]);
        }
        return ballot;
    }

    /** A box of a sort with just these ballots. */
    static int boxOf(BallotHouse x, int sort, int... ballots) {
        int box = x.box(sort, ballots.length);
        for (int i = 0; i < ballots.length; i++) {
            x.put(box, i, ballots[i]);
        }
        return box;
    }

    static int method(BallotHouse x, int kind) {
        return x.method(kind, 0, 0, NONE);
    }

    static long digestOf(long... values) {
        long h = 17;
        for (long v : values) {
            h = 31 * h + v;
        }
        return h;
    }
}
