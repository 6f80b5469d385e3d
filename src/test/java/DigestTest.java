/** Promise 30: digest. */
public final class DigestTest {
    private static final int NONE = BallotHouse.NONE;
    private static final Checks CHECKS = new Checks();

    public static void main(String[] args) {
        eachPart();
        together();
        whatIsNotInIt();
        CHECKS.end();
    }

    private static void eachPart() {
        BallotHouse x = House.with(3);
        x.draw(0, 2);
        CHECKS.due("digest() of a draw", x.digest(), House.digestOf(2, 1, 0));
        BallotHouse y = new BallotHouse();
        y.ballot(0, 5);
        CHECKS.due("digest() of a PAPER", y.digest(), House.digestOf(0, 5, 0));
        y.box(1, 2);
        CHECKS.due("digest() of an empty box", y.digest(), House.digestOf(0, 5, 0, NONE, NONE));
        BallotHouse z = new BallotHouse();
        z.method(8, 77, 5, NONE);
        z.method(3, 77, 5, 0);
        CHECKS.due("digest() of methods", z.digest(), House.digestOf(8, 0, 0, NONE, 3, 0, 0, 0));
        z.start(1);
        CHECKS.due("digest() of tried methods", z.digest(), House.digestOf(8, 2, 1, NONE, 3, 2, 1, 0));
        BallotHouse empty = new BallotHouse();
        empty.box(0, 0);
        CHECKS.due("digest() of a box without places", empty.digest(), 17);
    }

    private static void together() {
        BallotHouse x = House.with(3);
        House.ranked(x, 100000, 2, 0);
        House.scored(x, 4, 9, 0, 1);
        int single = x.ballot(2, 6);
        x.rank(single, 1);
        x.ballot(2, 7);
        House.boxOf(x, 0, 3, NONE, 0);
        House.boxOf(x, 3, 1);
        x.method(0, 1, 2, NONE);
        x.start(0);
        x.draw(1, 2);
        CHECKS.due("digest()", x.digest(), House.digestOf(0, 2, 1,
            1, 100000, 2, 2, 0, 3, 4, 0, 9, 0, 1, 2, 6, 1, 1, 2, 7, 0,
            3, NONE, 0, 1, 0, 1, 1, NONE));
        x.stand();
        CHECKS.due("digest() with points of one that came later", x.digest(), House.digestOf(0, 2, 1, 3,
            1, 100000, 2, 2, 0, 3, 4, 0, 9, 0, 1, 0, 2, 6, 1, 1, 2, 7, 0,
            3, NONE, 0, 1, 0, 1, 1, NONE));
    }

    private static void whatIsNotInIt() {
        BallotHouse x = House.with(2);
        int m = House.method(x, 0);
        int box = House.boxOf(x, 1, House.ranked(x, 3, 1));
        x.start(m);
        long before = x.digest();
        x.count(m, box, 2);
        x.at(box, 7);
        x.box(0, -1);
        CHECKS.due("digest() behind a count and findings", x.digest(), before);
        CHECKS.due("digest() again", x.digest(), before);
    }
}
