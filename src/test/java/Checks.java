/** Compares answers with those that are due, and ends a test with what it found. */
final class Checks {
    private int wrong = 0;
    private int made = 0;

    void due(String call, long got, long want) {
        made++;
        if (got != want) {
            wrong++;
            System.out.println(call + " answered " + got + ", due is " + want);
        }
    }

    void holds(String what, boolean truth) {
        due(what, truth ? 1 : 0, 1);
    }

    /** A FINDING is due, of which finding() tells the number, and findings() one more. */
    void found(BallotHouse x, String call, int before, int got, int finding) {
        due(call, got, BallotHouse.FINDING);
        due("finding() behind " + call, x.finding(), finding);
        due("findings() behind " + call, x.findings(finding), before + 1);
    }

    void seats(BallotHouse x, String count, int... want) {
        for (int i = 0; i < want.length; i++) {
            due("seat(" + i + ") of " + count, x.seat(i), want[i]);
        }
        due("seat() behind the last of " + count, x.seat(want.length), BallotHouse.NONE);
        due("seat(-1) of " + count, x.seat(-1), BallotHouse.NONE);
        due("many(4) of " + count, x.many(4), want.length);
    }

    /** A round with whole tallies. */
    void round(BallotHouse x, int i, int what, int candidate, long... tallies) {
        due("round(" + i + ", 0)", x.round(i, 0), what);
        due("round(" + i + ", 1)", x.round(i, 1), candidate);
        for (int c = 0; c < tallies.length; c++) {
            tally(x, i, c, tallies[c], 1);
        }
    }

    void tally(BallotHouse x, int i, int candidate, long upper, long lower) {
        due("tally(" + i + ", " + candidate + ", false)", x.tally(i, candidate, false), upper);
        due("tally(" + i + ", " + candidate + ", true)", x.tally(i, candidate, true), lower);
    }

    void end() {
        System.out.println(made + " answers looked at, " + wrong + " not as due");
        if (wrong != 0 || made == 0) {
            System.exit(1);
        }
    }
}
