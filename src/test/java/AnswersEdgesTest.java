import java.math.BigInteger;
import java.util.ArrayList;
import java.util.Collections;
import java.util.List;

/** The edges of promises 23 to 30: what is told of the latest count, of how many, of findings, and digest(). */
public final class AnswersEdgesTest {
    private static final int BAD = -1, NONE = -9, FINDING = -3;
    private static final int LEAST = Integer.MIN_VALUE, GREATEST = Integer.MAX_VALUE;
    private static final Checks CHECKS = new Checks();
    private static final Edges EMPTY = new Edges(CHECKS, x -> { });
    /** Candidates 0 to 2; the latest count is by FIRST for 2 seats, which 2 and 1 have. */
    private static final Edges ORDINARY = new Edges(CHECKS, House::ordinary);
    /** The latest count is by DIVISORS, for 30 seats. */
    private static final Edges THIRTY = new Edges(CHECKS, AnswersEdgesTest::thirty);

    public static void main(String[] args) {
        seatsFromFirstToLast();
        thirtySeatsAndRounds();
        roundsFromFirstToLast();
        talliesOfEachRound();
        talliesOfNoCandidate();
        talliesOfOneThatComesLater();
        aShorterResultHidesTheLonger();
        aRefusedCountLeavesTheResult();
        otherCallsLeaveTheResult();
        manyOfEach();
        manyOfFullHouses();
        eachFindingHasItsNumber();
        findingsOfNoNumber();
        refusalsThatAreNoFindings();
        findingsOfFiveHundredCalls();
        digestOfAFullHouse();
        digestOfEachChange();
        CHECKS.end();
    }

    private static void thirty(BallotHouse x) {
        x.stand();
        x.stand();
        x.method(6, 0, 0, NONE);
        House.boxOf(x, 1, House.ranked(x, 30, 0), House.ranked(x, 3, 1));
        x.count(0, 0, 30);
    }

    /** "Who has SEAT i of the latest count; NONE: none such." */
    private static void seatsFromFirstToLast() {
        ORDINARY.told("seat(0)", 2, x -> x.seat(0));
        ORDINARY.told("seat(1)", 1, x -> x.seat(1));
        for (int i : new int[] {-1, 2, 29, 30, NONE, LEAST, GREATEST}) {
            ORDINARY.told("seat(" + i + ")", NONE, x -> x.seat(i));
            EMPTY.told("seat(" + i + ") ahead of any count", NONE, x -> x.seat(i));
        }
    }

    private static void thirtySeatsAndRounds() {
        THIRTY.told("seat(29)", 0, x -> x.seat(29));
        THIRTY.told("seat(30)", NONE, x -> x.seat(30));
        THIRTY.told("rounds()", 30, x -> x.rounds());
        THIRTY.told("round(29, 0)", 1, x -> x.round(29, 0));
        THIRTY.told("round(29, 1)", 0, x -> x.round(29, 1));
        THIRTY.told("round(30, 0)", NONE, x -> x.round(30, 0));
        THIRTY.told("round(30, 1)", NONE, x -> x.round(30, 1));
        THIRTY.told("tally(29, 0, false)", 30, x -> x.tally(29, 0, false));
        THIRTY.told("tally(29, 1, true)", 1, x -> x.tally(29, 1, true));
        THIRTY.told("tally(30, 0, false)", NONE, x -> x.tally(30, 0, false));
        THIRTY.told("tally(30, 0, true)", NONE, x -> x.tally(30, 0, true));
        THIRTY.told("many(4)", 30, x -> x.many(4));
    }

    /** "Of a ROUND: 0 what happened, 1 the CANDIDATE; NONE: none such. BAD: what." */
    private static void roundsFromFirstToLast() {
        ORDINARY.told("rounds()", 2, x -> x.rounds());
        int[] whom = {2, 1};
        for (int round = 0; round < 2; round++) {
            int i = round;
            ORDINARY.told("round(" + i + ", 0)", 1, x -> x.round(i, 0));
            ORDINARY.told("round(" + i + ", 1)", whom[i], x -> x.round(i, 1));
        }
        for (int i : new int[] {-1, 2, 29, 30, NONE, LEAST, GREATEST}) {
            ORDINARY.told("round(" + i + ", 0)", NONE, x -> x.round(i, 0));
            ORDINARY.told("round(" + i + ", 1)", NONE, x -> x.round(i, 1));
            EMPTY.told("round(" + i + ", 0) ahead of any count", NONE, x -> x.round(i, 0));
        }
        for (int what : new int[] {-1, 2, NONE, LEAST, GREATEST}) {
            for (int i : new int[] {0, 1, 2, -1, LEAST, GREATEST}) {
                ORDINARY.told("round(" + i + ", " + what + "): BAD ahead of NONE", BAD, x -> x.round(i, what));
            }
            EMPTY.told("round(0, " + what + ") ahead of any count", BAD, x -> x.round(0, what));
        }
    }

    private static void talliesOfEachRound() {
        int[] tallies = {0, 4, 5};
        for (int round = 0; round < 2; round++) {
            for (int candidate = 0; candidate < 3; candidate++) {
                int i = round;
                int c = candidate;
                ORDINARY.told("tally(" + i + ", " + c + ", false)", tallies[c], x -> x.tally(i, c, false));
                ORDINARY.told("tally(" + i + ", " + c + ", true)", 1, x -> x.tally(i, c, true));
            }
        }
        for (int i : new int[] {-1, 2, 29, 30, NONE, LEAST, GREATEST}) {
            for (int candidate = 0; candidate < 3; candidate++) {
                int c = candidate;
                ORDINARY.told("tally(" + i + ", " + c + ", false)", NONE, x -> x.tally(i, c, false));
                ORDINARY.told("tally(" + i + ", " + c + ", true)", NONE, x -> x.tally(i, c, true));
            }
        }
        Edges uncounted = new Edges(CHECKS, x -> x.stand());
        uncounted.told("tally(0, 0, false) ahead of any count", NONE, x -> x.tally(0, 0, false));
        uncounted.told("tally(0, 0, true) ahead of any count", NONE, x -> x.tally(0, 0, true));
    }

    /** "BAD: the CANDIDATE", ahead of a ROUND that is not. */
    private static void talliesOfNoCandidate() {
        for (int candidate : new int[] {-1, 3, 9, 10, NONE, LEAST, GREATEST}) {
            for (int i : new int[] {0, 1, 2, -1, LEAST, GREATEST}) {
                String call = "tally(" + i + ", " + candidate + ", ..)";
                ORDINARY.told(call, BAD, x -> x.tally(i, candidate, false));
                ORDINARY.told(call, BAD, x -> x.tally(i, candidate, true));
            }
        }
    }

    /** "(one that came later: 0 by 1)", up to the tenth; those that were there keep theirs. */
    private static void talliesOfOneThatComesLater() {
        BallotHouse x = new BallotHouse();
        House.ordinary(x);
        for (int c = 3; c < 10; c++) {
            CHECKS.due("tally() of one that is not there", x.tally(0, c, true), BAD);
            x.stand();
            for (int i = 0; i < 2; i++) {
                CHECKS.tally(x, i, c, 0, 1);
                CHECKS.tally(x, i, 2, 5, 1);
            }
            CHECKS.due("tally() of no ROUND", x.tally(2, c, true), NONE);
        }
    }

    private static void aShorterResultHidesTheLonger() {
        BallotHouse x = new BallotHouse();
        thirty(x);
        for (int times = 0; times < 3; times++) {
            CHECKS.due("count() for 1", x.count(0, 0, 1), 1);
            CHECKS.due("rounds()", x.rounds(), 1);
            CHECKS.due("seat(1)", x.seat(1), NONE);
            CHECKS.due("round(1, 0)", x.round(1, 0), NONE);
            CHECKS.due("tally(1, 0, false)", x.tally(1, 0, false), NONE);
            CHECKS.due("many(4)", x.many(4), 1);
        }
        CHECKS.due("count() for 30", x.count(0, 0, 30), 30);
        CHECKS.due("rounds()", x.rounds(), 30);
    }

    /** "What is told of the latest count is of one that was not refused." */
    private static void aRefusedCountLeavesTheResult() {
        BallotHouse x = new BallotHouse();
        House.ordinary(x);
        int[][] refused = {{0, 1, 4}, {9, 1, 1}, {0, 9, 1}, {2, 1, 1}, {0, 0, 1}, {3, 1, 3}};
        for (int[] p : refused) {
            CHECKS.holds("count() is refused", x.count(p[0], p[1], p[2]) < 0);
            CHECKS.seats(x, "the one that was not refused", 2, 1);
            CHECKS.due("rounds()", x.rounds(), 2);
            CHECKS.round(x, 0, 1, 2, 0, 4, 5);
            CHECKS.round(x, 1, 1, 1, 0, 4, 5);
        }
    }

    /** What is told is of the count as it was: what its box, ballots and DRAW become later does not matter. */
    private static void otherCallsLeaveTheResult() {
        List<Edges.Call> calls = List.of(x -> x.draw(0, 2), x -> x.rank(1, 1), x -> x.rank(4, 0), x -> x.score(3, 0, 9),
            x -> x.put(1, 0, NONE), x -> x.put(1, 2, 4), x -> x.pour(1, 1, 1, 0, 2), x -> x.ballot(1, 100000),
            x -> x.box(1, 3), x -> x.method(0, 9, 255, NONE), x -> x.start(2), x -> x.find(0), x -> x.stand());
        BallotHouse x = new BallotHouse();
        House.ordinary(x);
        for (Edges.Call call : calls) {
            CHECKS.holds("the call is not refused", call.of(x) >= 0);
            CHECKS.seats(x, "a count, behind another call", 2, 1);
            CHECKS.due("rounds()", x.rounds(), 2);
            CHECKS.round(x, 0, 1, 2, 0, 4, 5);
            CHECKS.round(x, 1, 1, 1, 0, 4, 5);
        }
    }

    private static void manyOfEach() {
        int[] want = {3, 7, 4, 4, 2};
        for (int what = 0; what <= 4; what++) {
            int w = what;
            ORDINARY.told("many(" + w + ")", want[w], x -> x.many(w));
        }
        for (int what : new int[] {-1, 5, NONE, LEAST, GREATEST}) {
            ORDINARY.told("many(" + what + ")", BAD, x -> x.many(what));
        }
    }

    /** As full as a house gets, and one call more of each. */
    private static BallotHouse full() {
        BallotHouse x = new BallotHouse();
        for (int i = 0; i <= 10; i++) {
            x.stand();
        }
        for (int i = 0; i <= 60; i++) {
            x.ballot(i % 4, 100000 - i);
        }
        for (int i = 0; i <= 8; i++) {
            x.box(0, 40);
        }
        for (int i = 0; i <= 20; i++) {
            x.method(i % 9, i, 255, i == 0 ? NONE : (i - 1) % 20);
        }
        return x;
    }

    private static void manyOfFullHouses() {
        BallotHouse x = full();
        int[] want = {10, 60, 8, 20, 0};
        for (int what = 0; what <= 4; what++) {
            CHECKS.due("many(" + what + ")", x.many(what), want[what]);
        }
    }

    /** "FINDINGS: 1 NOTHING .., 2 BEYOND .., 3 UNLIKE .., 4 NOUGHT .., 5 SIZE .., 6 MISFIT .." */
    private static void eachFindingHasItsNumber() {
        ORDINARY.found("at(1, 2)", 1, x -> x.at(1, 2));
        ORDINARY.found("share(1, 2)", 1, x -> x.share(1, 2));
        ORDINARY.found("put(1, 3, 1)", 2, x -> x.put(1, 3, 1));
        ORDINARY.found("pour(1, 0, 1, 0, 4)", 2, x -> x.pour(1, 0, 1, 0, 4));
        ORDINARY.found("at(1, 3)", 2, x -> x.at(1, 3));
        ORDINARY.found("share(1, 3)", 2, x -> x.share(1, 3));
        ORDINARY.found("rank(0, 0)", 3, x -> x.rank(0, 0));
        ORDINARY.found("score(0, 0, 0)", 3, x -> x.score(0, 0, 0));
        ORDINARY.found("weight(0, 0)", 3, x -> x.weight(0, 0));
        ORDINARY.unlike("count(0, 0, 1)", 0, 0, x -> x.count(0, 0, 1));
        ORDINARY.found("weight(6, 0)", 4, x -> x.weight(6, 0));
        ORDINARY.found("box(0, -1)", 5, x -> x.box(0, -1));
        ORDINARY.found("put(1, 0, 0)", 6, x -> x.put(1, 0, 0));
        ORDINARY.found("pour(1, 0, 0, 0, 1)", 6, x -> x.pour(1, 0, 0, 0, 1));
        BallotHouse x = new BallotHouse();
        House.ordinary(x);
        long[] answers = {x.at(1, 2), x.at(1, 3), x.rank(0, 0), x.weight(6, 0), x.box(0, -1), x.put(1, 0, 0)};
        for (long answer : answers) {
            CHECKS.due("a FINDING of each", answer, FINDING);
        }
        CHECKS.due("finding(): the latest", x.finding(), 6);
        x.at(1, 2);
        CHECKS.due("finding(): the latest, not the greatest", x.finding(), 1);
        for (int f = 1; f <= 6; f++) {
            CHECKS.due("findings(" + f + ")", x.findings(f), f == 1 ? 2 : 1);
        }
    }

    /** "How often a FINDING (1 .. 6) was answered. BAD." */
    private static void findingsOfNoNumber() {
        for (int f : new int[] {0, -1, 7, FINDING, NONE, LEAST, GREATEST}) {
            ORDINARY.told("findings(" + f + ")", BAD, x -> x.findings(f));
            EMPTY.told("findings(" + f + ")", BAD, x -> x.findings(f));
        }
        ORDINARY.told("findings(1)", 0, x -> x.findings(1));
        ORDINARY.told("findings(6)", 0, x -> x.findings(6));
    }

    /** BAD, FULL, STATE, SPENT and NONE are no FINDINGS: what finding() tells is older. */
    private static void refusalsThatAreNoFindings() {
        BallotHouse x = full();
        int single = 2;
        x.at(0, 0);
        long[] answers = {x.stand(), x.draw(10, 0), x.drawn(10), x.ballot(0, 1), x.ballot(4, 1), x.rank(60, 0),
            x.rank(single, 0), x.rank(single, 1), x.score(3, 0, 10), x.told(0, -1), x.told(0, 3), x.is(0, 4),
            x.box(0, 1), x.box(0, 41), x.put(8, 0, 0), x.pour(8, 0, 0, 0, 0), x.method(0, 0, 0, NONE),
            x.method(9, 0, 0, NONE), x.methodOf(20, 0), x.under(0, 9), x.start(20), x.find(8), x.count(0, 8, 1),
            x.start(19), x.count(19, 0, 1), x.seat(0), x.round(0, 0), x.tally(0, 10, true), x.many(5), x.findings(7)};
        CHECKS.due("calls made", answers.length, 30);
        CHECKS.due("finding()", x.finding(), 1);
        for (int f = 1; f <= 6; f++) {
            CHECKS.due("findings(" + f + ")", x.findings(f), f == 1 ? 1 : 0);
        }
    }

    private static void findingsOfFiveHundredCalls() {
        BallotHouse x = new BallotHouse();
        for (int i = 0; i < 510; i++) {
            x.box(0, -1);
        }
        CHECKS.due("findings(5)", x.findings(5), 510);
        CHECKS.due("finding()", x.finding(), 5);
    }

    /** "h = 31 h + v": worked out with whole numbers of any size, of which a long keeps 64 bits. */
    private static long keptBits(List<Long> values) {
        BigInteger h = BigInteger.valueOf(17);
        for (long v : values) {
            h = h.multiply(BigInteger.valueOf(31)).add(BigInteger.valueOf(v));
        }
        return h.longValue();
    }

    private static void digestOfAFullHouse() {
        BallotHouse x = full();
        List<Long> values = new ArrayList<>();
        for (long c = 0; c < 10; c++) {
            values.add(c);
        }
        for (long b = 0; b < 60; b++) {
            values.addAll(List.of(b % 4, 100000 - b, 0L));
            if (b % 4 == 3) {
                values.addAll(Collections.nCopies(10, 0L));
            }
        }
        values.addAll(Collections.nCopies(320, (long) NONE));
        for (long m = 0; m < 20; m++) {
            values.addAll(List.of(m % 9, 0L, 0L, m == 0 ? NONE : m - 1));
        }
        CHECKS.due("digest() of a full house", x.digest(), keptBits(values));
        CHECKS.due("digest() again", x.digest(), keptBits(values));
    }

    /** Each thing that digest() speaks of makes another one of it; each that it does not leaves it. */
    private static void digestOfEachChange() {
        changes("draw(0, 2)", true, x -> x.draw(0, 2));
        changes("draw(1, 1)", false, x -> x.draw(1, 1));
        changes("stand()", true, x -> x.stand());
        changes("ballot(0, 1)", true, x -> x.ballot(0, 1));
        changes("rank(1, 1)", true, x -> x.rank(1, 1));
        changes("rank(5, 1)", true, x -> x.rank(5, 1));
        changes("score(3, 1, 1)", true, x -> x.score(3, 1, 1));
        changes("score(3, 0, 4), as it was", false, x -> x.score(3, 0, 4));
        changes("box(0, 0)", false, x -> x.box(0, 0));
        changes("box(0, 1)", true, x -> x.box(0, 1));
        changes("put(1, 2, 1)", true, x -> x.put(1, 2, 1));
        changes("put(1, 0, NONE)", true, x -> x.put(1, 0, NONE));
        changes("pour(1, 0, 1, 1, 1)", true, x -> x.pour(1, 0, 1, 1, 1));
        changes("method(0, 0, 0, NONE)", true, x -> x.method(0, 0, 0, NONE));
        changes("start(3)", true, x -> x.start(3));
        changes("start(0), which is started", false, x -> x.start(0));
        changes("find(1)", true, x -> x.find(1));
        changes("find(0), which is started", false, x -> x.find(0));
        changes("count(0, 1, 1) by one that is started", false, x -> x.count(0, 1, 1));
        changes("count(3, 3, 1) by one that is not begun", true, x -> x.count(3, 3, 1));
        changes("count(2, 1, 1) by one that fails", true, x -> x.count(2, 1, 1));
        changes("at(1, 9)", false, x -> x.at(1, 9));
    }

    private static void changes(String call, boolean want, Edges.Call made) {
        BallotHouse x = new BallotHouse();
        House.ordinary(x);
        long before = x.digest();
        made.of(x);
        CHECKS.holds("digest() behind " + call, (x.digest() != before) == want);
    }
}
