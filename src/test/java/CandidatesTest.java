/** Promises 1 to 4: a new object, stand, draw, drawn. */
public final class CandidatesTest {
    private static final Checks CHECKS = new Checks();

    public static void main(String[] args) {
        newObject();
        standing();
        drawing();
        CHECKS.end();
    }

    private static void newObject() {
        BallotHouse x = new BallotHouse();
        for (int what = 0; what <= 4; what++) {
            CHECKS.due("many(" + what + ")", x.many(what), 0);
        }
        for (int f = 1; f <= 6; f++) {
            CHECKS.due("findings(" + f + ")", x.findings(f), 0);
        }
        CHECKS.due("finding()", x.finding(), 0);
        CHECKS.due("where()", x.where(), -9);
        CHECKS.due("rounds()", x.rounds(), 0);
        CHECKS.due("seat(0)", x.seat(0), -9);
        CHECKS.due("round(0, 0)", x.round(0, 0), -9);
        CHECKS.due("tally(0, 0, false)", x.tally(0, 0, false), -1);
        CHECKS.due("drawn(0)", x.drawn(0), -1);
        CHECKS.due("draw(0, 0)", x.draw(0, 0), -1);
        CHECKS.due("digest()", x.digest(), 17);
    }

    private static void standing() {
        BallotHouse x = new BallotHouse();
        for (int c = 0; c < 10; c++) {
            CHECKS.due("stand()", x.stand(), c);
            CHECKS.due("drawn(last)", x.drawn(c), c);
            CHECKS.due("drawn(behind)", x.drawn(c + 1), -1);
        }
        long before = x.digest();
        CHECKS.due("stand() of an eleventh", x.stand(), -2);
        CHECKS.due("many(0)", x.many(0), 10);
        CHECKS.due("digest()", x.digest(), before);
        CHECKS.due("finding()", x.finding(), 0);
    }

    private static void drawing() {
        BallotHouse x = House.with(3);
        CHECKS.due("draw(0, 2)", x.draw(0, 2), 1);
        CHECKS.due("drawn(0)", x.drawn(0), 2);
        CHECKS.due("drawn(1)", x.drawn(1), 1);
        CHECKS.due("drawn(2)", x.drawn(2), 0);
        CHECKS.due("draw(1, 0), by places, not by who", x.draw(1, 0), 1);
        CHECKS.due("drawn(0)", x.drawn(0), 1);
        CHECKS.due("drawn(1)", x.drawn(1), 2);
        CHECKS.due("draw(2, 2)", x.draw(2, 2), 1);
        CHECKS.due("drawn(2)", x.drawn(2), 0);
        CHECKS.due("stand() behind a draw", x.stand(), 3);
        CHECKS.due("drawn(3)", x.drawn(3), 3);
        long before = x.digest();
        int[] none = {-1, 4, -9, Integer.MIN_VALUE, Integer.MAX_VALUE};
        for (int i : none) {
            CHECKS.due("draw(" + i + ", 0)", x.draw(i, 0), -1);
            CHECKS.due("draw(0, " + i + ")", x.draw(0, i), -1);
            CHECKS.due("drawn(" + i + ")", x.drawn(i), -1);
        }
        CHECKS.due("digest()", x.digest(), before);
    }
}
