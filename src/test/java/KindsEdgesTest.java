/** The edges of what each KIND of count does: no papers, all papers, one CANDIDATE, ten, and ties. */
public final class KindsEdgesTest {
    private static final int NONE = -9;
    private static final int FIRST = 0, POINTS = 1, PLACES = 2, RUN_OFF = 3, WAYS = 4, TRANSFER = 5, DIVISORS = 6,
        ODD_DIVISORS = 7, BROKEN = 8;
    private static final int HAS_SEAT = 1, IS_OUT = 2;
    private static final int[] BACKWARDS = {9, 8, 7, 6, 5, 4, 3, 2, 1, 0};
    private static final Checks CHECKS = new Checks();

    public static void main(String[] args) {
        withoutPapersTheDrawTells();
        ballotsWithNoneOnThem();
        oneCandidate();
        fullOfPapers();
        aBallotCountsEachTime();
        singleOnesAreRanked();
        pointsOfNought();
        placesOfTen();
        tiesByTheDraw();
        divisorsThatAreAlike();
        thirtySeatsByDivisors();
        oneMayHaveSeveralSeats();
        runOffOfTwo();
        runOffLeavesOutTheLastOfTheDraw();
        runOffPassesThoseThatAreOut();
        beatsByMoreThanTheOtherWayRound();
        waysOverTenCandidates();
        waysToTheOnlyOne();
        whenAsManyAreInAsSeatsAreLeft();
        justTheQuota();
        quotaIsCut();
        quotaLeavesNothing();
        fractionsThatAreAlike();
        ballotsWithoutAnyoneIn();
        transferEndsWithTheLastSeat();
        eachCountBeginsAnew();
        CHECKS.end();
    }

    /** n CANDIDATES in a DRAW the other way round, and a method of each kind. */
    private static BallotHouse backwards(int n) {
        BallotHouse x = House.with(n);
        for (int i = 0; i < n / 2; i++) {
            x.draw(i, n - 1 - i);
        }
        for (int kind = FIRST; kind <= BROKEN; kind++) {
            x.method(kind, 0, 0, NONE);
        }
        return x;
    }

    private static void nothingTallied(BallotHouse x, String count, int n) {
        for (int i = 0; i < x.rounds(); i++) {
            for (int c = 0; c < n; c++) {
                CHECKS.due("tally() of " + count, x.tally(i, c, false), 0);
                CHECKS.due("tally() below of " + count, x.tally(i, c, true), 1);
            }
        }
    }

    /** All are alike: the first in THE DRAW is AHEAD, the last is out. */
    private static void withoutPapersTheDrawTells() {
        for (int n : new int[] {1, 2, 5}) {
            for (int places : new int[] {0, 40}) {
                for (int kind = FIRST; kind < BROKEN; kind++) {
                    for (int seats = 1; seats <= n; seats++) {
                        BallotHouse x = backwards(n);
                        x.box(0, places);
                        countWithoutPapers(x, n, kind, seats);
                    }
                }
            }
        }
    }

    private static void countWithoutPapers(BallotHouse x, int n, int kind, int seats) {
        String count = "count() of " + n + " by " + kind + " for " + seats;
        CHECKS.due(count, x.count(kind, 0, seats), seats);
        boolean divisors = kind == DIVISORS || kind == ODD_DIVISORS;
        for (int i = 0; i < seats; i++) {
            CHECKS.due("seat(" + i + ") of " + count, x.seat(i), divisors ? n - 1 : n - 1 - i);
        }
        CHECKS.due("seat() behind the last of " + count, x.seat(seats), NONE);
        CHECKS.due("rounds() of " + count, x.rounds(), kind == RUN_OFF || kind == TRANSFER ? n : seats);
        nothingTallied(x, count, n);
        if (kind == RUN_OFF || kind == TRANSFER) {
            int outs = kind == RUN_OFF ? n - 1 : n - seats;
            for (int i = 0; i < n; i++) {
                CHECKS.due("round(.., 0) of " + count, x.round(i, 0), i < outs ? IS_OUT : HAS_SEAT);
                CHECKS.due("round(.., 1) of " + count, x.round(i, 1), i < outs ? i : n - 1 - (i - outs));
            }
        }
    }

    /** RANKED ones with none on them, SCORED ones without points: papers that tell nothing. */
    private static void ballotsWithNoneOnThem() {
        for (int kind = FIRST; kind < BROKEN; kind++) {
            BallotHouse x = backwards(3);
            int ranked = x.ballot(1, 100000);
            int single = x.ballot(2, 7);
            int scored = x.ballot(3, 100000);
            if (kind == POINTS) {
                House.boxOf(x, 0, scored, NONE, scored);
            } else {
                House.boxOf(x, 0, ranked, single, NONE, ranked);
            }
            countWithoutPapers(x, 3, kind, 2);
        }
    }

    private static void oneCandidate() {
        for (int kind = FIRST; kind < BROKEN; kind++) {
            BallotHouse x = backwards(1);
            int ballot = kind == POINTS ? House.scored(x, 100000, 9) : House.ranked(x, 100000, 0);
            House.boxOf(x, 0, ballot);
            CHECKS.due("count() of one by " + kind, x.count(kind, 0, 1), 1);
            CHECKS.seats(x, "one by " + kind, 0);
            CHECKS.due("rounds()", x.rounds(), 1);
            long tally = kind == POINTS ? 900000 : kind == PLACES || kind == WAYS ? 0 : 100000;
            CHECKS.round(x, 0, HAS_SEAT, 0, tally);
        }
    }

    /** 40 places with 100000 papers each, and ten CANDIDATES: the greatest sums that there are. */
    private static void fullOfPapers() {
        long[] greatest = {4000000, 36000000, 36000000, 4000000, 4000000, 4000000, 4000000, 4000000};
        for (int kind = FIRST; kind < BROKEN; kind++) {
            BallotHouse x = backwards(10);
            int ballot = kind == POINTS ? House.scored(x, 100000, 9, 8, 7, 6, 5, 4, 3, 2, 1, 0)
                : House.ranked(x, 100000, 0, 1, 2, 3, 4, 5, 6, 7, 8, 9);
            x.box(0, 40);
            for (int i = 0; i < 40; i++) {
                x.put(0, i, ballot);
            }
            CHECKS.due("count() by " + kind, x.count(kind, 0, 10), 10);
            boolean seatedAtOnce = kind != RUN_OFF;
            int round = seatedAtOnce ? 0 : 9;
            CHECKS.due("round() by " + kind, x.round(round, 0), HAS_SEAT);
            CHECKS.due("round() by " + kind, x.round(round, 1), 0);
            CHECKS.tally(x, round, 0, greatest[kind], 1);
            CHECKS.tally(x, round, 1, kind == POINTS || kind == PLACES ? 32000000 : 0, 1);
            CHECKS.tally(x, round, 9, 0, 1);
            CHECKS.due("seat(0) by " + kind, x.seat(0), 0);
        }
    }

    /** "a BALLOT may lie in several places, and counts each time" */
    private static void aBallotCountsEachTime() {
        for (int kind = FIRST; kind < BROKEN; kind++) {
            BallotHouse x = backwards(2);
            boolean points = kind == POINTS;
            int twice = points ? House.scored(x, 3, 0, 2) : House.ranked(x, 3, 1);
            int once = points ? House.scored(x, 5, 2, 0) : House.ranked(x, 5, 0);
            House.boxOf(x, points ? 3 : 1, once, twice, NONE, twice);
            x.draw(0, 1);
            CHECKS.due("count() by " + kind, x.count(kind, 0, 1), 1);
            CHECKS.seats(x, "twice three by " + kind, 1);
            CHECKS.tally(x, 0, 1, points ? 12 : 6, 1);
            x.put(0, 3, NONE);
            CHECKS.due("count() by " + kind, x.count(kind, 0, 1), 1);
            CHECKS.seats(x, "once three by " + kind, 0);
        }
    }

    /** "SINGLE (a RANKED, too)" */
    private static void singleOnesAreRanked() {
        for (int kind = FIRST; kind < BROKEN; kind++) {
            if (kind != POINTS) {
                BallotHouse x = backwards(3);
                int single = x.ballot(2, 5);
                x.rank(single, 1);
                House.boxOf(x, 2, single);
                CHECKS.due("count() of SINGLE ones by " + kind, x.count(kind, 0, 1), 1);
                CHECKS.seats(x, "SINGLE ones by " + kind, 1);
            }
        }
    }

    private static void pointsOfNought() {
        BallotHouse x = backwards(3);
        House.boxOf(x, 3, House.scored(x, 100000, 0, 1, 0), House.scored(x, 1, 0, 0, 9));
        CHECKS.due("count()", x.count(POINTS, 0, 3), 3);
        CHECKS.seats(x, "POINTS", 1, 2, 0);
        CHECKS.round(x, 2, HAS_SEAT, 0, 0, 100000, 9);
        x.stand();
        CHECKS.due("count() with one that came later", x.count(POINTS, 0, 4), 4);
        CHECKS.seats(x, "POINTS", 1, 2, 0, 3);
    }

    /** "papers times N - 1 less the place (from 0) at which it is RANKED; 0 if not" */
    private static void placesOfTen() {
        BallotHouse x = backwards(10);
        House.boxOf(x, 1, House.ranked(x, 2, BACKWARDS), House.ranked(x, 3, 4));
        CHECKS.due("count()", x.count(PLACES, 0, 10), 10);
        CHECKS.round(x, 0, HAS_SEAT, 4, 0, 2, 4, 6, 8 + 27, 10, 12, 14, 16, 18);
        CHECKS.seats(x, "PLACES", 4, 9, 8, 7, 6, 5, 3, 2, 1, 0);
    }

    /** Two CANDIDATES are alike, and stand first, last, or next to one another in THE DRAW. */
    private static void tiesByTheDraw() {
        for (int kind : new int[] {FIRST, PLACES, WAYS, TRANSFER, DIVISORS, ODD_DIVISORS, RUN_OFF}) {
            for (int turned = 0; turned <= 1; turned++) {
                BallotHouse x = House.with(4);
                x.method(kind, 0, 0, NONE);
                House.boxOf(x, 1, House.ranked(x, 4, 0), House.ranked(x, 4, 3));
                if (turned == 1) {
                    x.draw(0, 3);
                }
                CHECKS.due("count() of two alike by " + kind, x.count(0, 0, 2), 2);
                CHECKS.seats(x, "two alike by " + kind, turned == 1 ? 3 : 0, turned == 1 ? 0 : 3);
            }
        }
    }

    /** 6 by 2 and 3 by 1 are alike, 6 by 3 and 2 by 1, and so on: THE DRAW tells each time. */
    private static void divisorsThatAreAlike() {
        for (int turned = 0; turned <= 1; turned++) {
            BallotHouse x = House.with(2);
            x.method(DIVISORS, 0, 0, NONE);
            x.method(ODD_DIVISORS, 0, 0, NONE);
            House.boxOf(x, 1, House.ranked(x, 6, 0), House.ranked(x, 2, 1));
            int first = 0;
            int second = 1;
            if (turned == 1) {
                x.draw(0, 1);
                first = 1;
                second = 0;
            }
            CHECKS.due("count()", x.count(0, 0, 4), 4);
            CHECKS.seats(x, "DIVISORS: 6, 3, then 2 and 2", 0, 0, first, second);
            CHECKS.due("count()", x.count(1, 0, 3), 3);
            CHECKS.seats(x, "ODD DIVISORS: 6, then 2 and 2", 0, first, second);
        }
    }

    /** 30 SEATS: the divisors go up to 30, or 59. */
    private static void thirtySeatsByDivisors() {
        BallotHouse x = House.with(2);
        x.method(DIVISORS, 0, 0, NONE);
        x.method(ODD_DIVISORS, 0, 0, NONE);
        House.boxOf(x, 1, House.ranked(x, 100000, 0), House.ranked(x, 3448, 1));
        CHECKS.due("count()", x.count(0, 0, 30), 30);
        CHECKS.due("seat(28): 100000 by 29 is 3448.2", x.seat(28), 0);
        CHECKS.due("seat(29)", x.seat(29), 1);
        CHECKS.due("rounds()", x.rounds(), 30);
        CHECKS.round(x, 29, HAS_SEAT, 1, 100000, 3448);
        x.put(0, 1, House.ranked(x, 1754, 1));
        CHECKS.due("count()", x.count(1, 0, 30), 30);
        CHECKS.due("seat(28): 100000 by 57 is 1754.3", x.seat(28), 0);
        CHECKS.due("seat(29)", x.seat(29), 1);
        x.put(0, 1, House.ranked(x, 1755, 1));
        CHECKS.due("count()", x.count(1, 0, 30), 30);
        CHECKS.due("seat(28): 1755 is more", x.seat(28), 1);
        CHECKS.due("seat(29)", x.seat(29), 0);
    }

    private static void oneMayHaveSeveralSeats() {
        for (int kind : new int[] {DIVISORS, ODD_DIVISORS}) {
            BallotHouse x = House.with(1);
            x.method(kind, 0, 0, NONE);
            x.box(1, 0);
            CHECKS.due("count() of one for 30", x.count(0, 0, 30), 30);
            for (int i = 0; i < 30; i++) {
                CHECKS.due("seat(" + i + ")", x.seat(i), 0);
                CHECKS.due("round(" + i + ", 0)", x.round(i, 0), HAS_SEAT);
                CHECKS.due("round(" + i + ", 1)", x.round(i, 1), 0);
            }
            CHECKS.due("seat(30)", x.seat(30), NONE);
            CHECKS.due("round(30, 0)", x.round(30, 0), NONE);
        }
    }

    private static void runOffOfTwo() {
        BallotHouse x = backwards(2);
        House.boxOf(x, 1, House.ranked(x, 3, 0), House.ranked(x, 4, 1));
        for (int seats = 1; seats <= 2; seats++) {
            CHECKS.due("count()", x.count(RUN_OFF, 0, seats), seats);
            CHECKS.due("rounds()", x.rounds(), 2);
            CHECKS.round(x, 0, IS_OUT, 0, 3, 4);
            CHECKS.round(x, 1, HAS_SEAT, 1, 0, 4);
            CHECKS.due("seat(0)", x.seat(0), 1);
            CHECKS.due("seat(1)", x.seat(1), seats == 2 ? 0 : NONE);
        }
    }

    /** "the least TALLY of those in, of those alike the last one in THE DRAW" */
    private static void runOffLeavesOutTheLastOfTheDraw() {
        BallotHouse x = House.with(4);
        House.method(x, RUN_OFF);
        House.boxOf(x, 1, House.ranked(x, 3, 0), House.ranked(x, 2, 1), House.ranked(x, 2, 2), House.ranked(x, 3, 3));
        x.draw(1, 3);
        CHECKS.due("count()", x.count(0, 0, 4), 4);
        CHECKS.round(x, 0, IS_OUT, 1, 3, 2, 2, 3);
        CHECKS.round(x, 1, IS_OUT, 2, 3, 0, 2, 3);
        CHECKS.round(x, 2, IS_OUT, 3, 3, 0, 0, 3);
        CHECKS.round(x, 3, HAS_SEAT, 0, 3, 0, 0, 0);
        CHECKS.seats(x, "RUN-OFF", 0, 3, 2, 1);
    }

    /** "papers by the first one on them that is in": over nine that are out, and at last to none. */
    private static void runOffPassesThoseThatAreOut() {
        BallotHouse x = House.with(10);
        House.method(x, RUN_OFF);
        House.boxOf(x, 1, House.ranked(x, 1, BACKWARDS), House.ranked(x, 1, 9));
        CHECKS.due("count()", x.count(0, 0, 1), 1);
        CHECKS.due("rounds()", x.rounds(), 10);
        CHECKS.round(x, 0, IS_OUT, 8, 0, 0, 0, 0, 0, 0, 0, 0, 0, 2);
        CHECKS.round(x, 8, IS_OUT, 0, 0, 0, 0, 0, 0, 0, 0, 0, 0, 2);
        CHECKS.round(x, 9, HAS_SEAT, 9, 0, 0, 0, 0, 0, 0, 0, 0, 0, 2);
        x.put(0, 1, House.ranked(x, 5, 0));
        CHECKS.due("count()", x.count(0, 0, 1), 1);
        CHECKS.round(x, 8, IS_OUT, 9, 5, 0, 0, 0, 0, 0, 0, 0, 0, 1);
        CHECKS.round(x, 9, HAS_SEAT, 0, 6, 0, 0, 0, 0, 0, 0, 0, 0, 0);
    }

    /** "if these are more than those the other way round; else by 0": one paper decides. */
    private static void beatsByMoreThanTheOtherWayRound() {
        int[][] papers = {{5, 4}, {5, 5}, {4, 5}};
        int[] first = {0, 0, 1};
        long[] tally = {5, 0, 5};
        for (int i = 0; i < papers.length; i++) {
            BallotHouse x = House.with(2);
            House.method(x, WAYS);
            House.boxOf(x, 1, House.ranked(x, papers[i][0], 0, 1), House.ranked(x, papers[i][1], 1));
            CHECKS.due("count()", x.count(0, 0, 2), 2);
            CHECKS.seats(x, "WAYS", first[i], 1 - first[i]);
            CHECKS.tally(x, 0, first[i], tally[i], 1);
            CHECKS.tally(x, 0, 1 - first[i], 0, 1);
        }
    }

    /** A ring of ten, each of whom all but one or two papers have ahead of the next. */
    private static void waysOverTenCandidates() {
        BallotHouse x = House.with(10);
        House.method(x, WAYS);
        x.box(1, 10);
        for (int first = 0; first < 10; first++) {
            int[] order = new int[10];
            for (int i = 0; i < 10; i++) {
                order[i] = (first + i) % 10;
            }
            x.put(0, first, House.ranked(x, first == 0 ? 2 : 1, order));
        }
        CHECKS.due("count()", x.count(0, 0, 10), 10);
        CHECKS.seats(x, "a ring", 0, 1, 2, 3, 4, 5, 6, 7, 8, 9);
        CHECKS.round(x, 0, HAS_SEAT, 0, 10, 0, 0, 0, 0, 0, 0, 0, 0, 0);
        CHECKS.round(x, 8, HAS_SEAT, 8, 0, 0, 0, 0, 0, 0, 0, 0, 10, 0);
        CHECKS.round(x, 9, HAS_SEAT, 9, 0, 0, 0, 0, 0, 0, 0, 0, 0, 0);
    }

    /** "(0, if it is the only one)" */
    private static void waysToTheOnlyOne() {
        BallotHouse x = House.with(2);
        House.method(x, WAYS);
        House.boxOf(x, 1, House.ranked(x, 7, 1, 0));
        CHECKS.due("count()", x.count(0, 0, 2), 2);
        CHECKS.round(x, 0, HAS_SEAT, 1, 0, 7);
        CHECKS.round(x, 1, HAS_SEAT, 0, 0, 0);
    }

    /** "If no more are in than there are SEATS left": also below the QUOTA, and WEIGHTS stay. */
    private static void whenAsManyAreInAsSeatsAreLeft() {
        BallotHouse x = House.with(3);
        House.method(x, TRANSFER);
        House.boxOf(x, 1, House.ranked(x, 9, 0, 1), House.ranked(x, 1, 2));
        CHECKS.due("count() for all", x.count(0, 0, 3), 3);
        CHECKS.round(x, 0, HAS_SEAT, 0, 9, 0, 1);
        CHECKS.round(x, 1, HAS_SEAT, 1, 0, 9, 1);
        CHECKS.round(x, 2, HAS_SEAT, 2, 0, 0, 1);
        CHECKS.due("count() for one less", x.count(0, 0, 2), 2);
        CHECKS.round(x, 0, HAS_SEAT, 0, 9, 0, 1);
        CHECKS.round(x, 1, HAS_SEAT, 1, 0, 5, 1);
        CHECKS.due("rounds()", x.rounds(), 2);
    }

    /** "not below QUOTA": QUOTA itself, and one paper less. QUOTA is 4 by 7 papers, and 1 SEAT. */
    private static void justTheQuota() {
        BallotHouse x = House.with(3);
        House.method(x, TRANSFER);
        House.boxOf(x, 1, House.ranked(x, 4, 0), House.ranked(x, 3, 1));
        CHECKS.due("count()", x.count(0, 0, 1), 1);
        CHECKS.due("rounds()", x.rounds(), 1);
        CHECKS.round(x, 0, HAS_SEAT, 0, 4, 3, 0);
        x.put(0, 1, House.ranked(x, 4, 1));
        CHECKS.due("count() with one more of 8: QUOTA is 5", x.count(0, 0, 1), 1);
        CHECKS.round(x, 0, IS_OUT, 2, 4, 4, 0);
        CHECKS.round(x, 1, IS_OUT, 1, 4, 4, 0);
        CHECKS.round(x, 2, HAS_SEAT, 0, 4, 0, 0);
    }

    /** "all papers by SEATS and 1, cut, and 1 more": 9, 10, 11 papers by 3 make 4, and 12 make 5. */
    private static void quotaIsCut() {
        for (int rest = 0; rest <= 3; rest++) {
            BallotHouse x = House.with(4);
            House.method(x, TRANSFER);
            House.boxOf(x, 1, House.ranked(x, 4, 0), House.ranked(x, 3, 1), House.ranked(x, 2 + rest, 2, 3));
            CHECKS.due("count()", x.count(0, 0, 2), 2);
            if (rest < 3) {
                CHECKS.round(x, 0, HAS_SEAT, 0, 4, 3, 2 + rest, 0);
            } else {
                CHECKS.round(x, 0, HAS_SEAT, 2, 4, 3, 5, 0);
                CHECKS.round(x, 1, IS_OUT, 3, 4, 3, 0, 0);
            }
        }
    }

    /** TALLY less QUOTA is 0: WEIGHTS are 0 by 1 then, and add nothing. */
    private static void quotaLeavesNothing() {
        BallotHouse x = House.with(4);
        House.method(x, TRANSFER);
        House.boxOf(x, 1, House.ranked(x, 3, 0, 1), House.ranked(x, 1, 0, 2), House.ranked(x, 3, 3),
            House.ranked(x, 2, 2), House.ranked(x, 1, 1));
        CHECKS.due("count(): QUOTA is 4", x.count(0, 0, 2), 2);
        CHECKS.round(x, 0, HAS_SEAT, 0, 4, 1, 2, 3);
        CHECKS.round(x, 1, IS_OUT, 1, 0, 1, 2, 3);
        CHECKS.round(x, 2, IS_OUT, 2, 0, 0, 2, 3);
        CHECKS.round(x, 3, HAS_SEAT, 3, 0, 0, 0, 3);
    }

    /** QUOTA 5; 0 leaves 2 of 7: 6/7 to each of 1 and 2, 2/7 to 3. */
    private static void fractionsThatAreAlike() {
        for (int turned = 0; turned <= 1; turned++) {
            BallotHouse x = House.with(5);
            House.method(x, TRANSFER);
            House.boxOf(x, 1, House.ranked(x, 3, 0, 1), House.ranked(x, 3, 0, 2), House.ranked(x, 1, 0, 3),
                House.ranked(x, 1, 3), House.ranked(x, 4, 4));
            int kept = 1;
            int out = 2;
            if (turned == 1) {
                x.draw(1, 2);
                kept = 2;
                out = 1;
            }
            CHECKS.due("count()", x.count(0, 0, 2), 2);
            CHECKS.round(x, 0, HAS_SEAT, 0, 7, 0, 0, 1, 4);
            CHECKS.due("of those alike the last one in THE DRAW", x.round(1, 1), out);
            CHECKS.tally(x, 1, 1, 6, 7);
            CHECKS.tally(x, 1, 2, 6, 7);
            CHECKS.tally(x, 1, 3, 9, 7);
            CHECKS.due("then the other", x.round(2, 1), kept);
        }
    }

    /** A ballot whose CANDIDATES are all seated or out adds to no TALLY any more. */
    private static void ballotsWithoutAnyoneIn() {
        BallotHouse x = House.with(4);
        House.method(x, TRANSFER);
        House.boxOf(x, 1, House.ranked(x, 8, 0), House.ranked(x, 1, 1), House.ranked(x, 2, 2), House.ranked(x, 3, 3));
        CHECKS.due("count(): QUOTA is 5", x.count(0, 0, 2), 2);
        CHECKS.round(x, 0, HAS_SEAT, 0, 8, 1, 2, 3);
        CHECKS.round(x, 1, IS_OUT, 1, 0, 1, 2, 3);
        CHECKS.round(x, 2, IS_OUT, 2, 0, 0, 2, 3);
        CHECKS.round(x, 3, HAS_SEAT, 3, 0, 0, 0, 3);
        CHECKS.seats(x, "TRANSFER", 0, 3);
    }

    private static void transferEndsWithTheLastSeat() {
        BallotHouse x = House.with(10);
        House.method(x, TRANSFER);
        House.boxOf(x, 1, House.ranked(x, 9, 9), House.ranked(x, 1, 0));
        CHECKS.due("count()", x.count(0, 0, 1), 1);
        CHECKS.due("rounds()", x.rounds(), 1);
        CHECKS.seats(x, "TRANSFER", 9);
        CHECKS.due("round(1, 0)", x.round(1, 0), NONE);
    }

    /** Two boxes of RANKED and two of SCORED ones, and a method of each kind. */
    private static BallotHouse twoBoxesEach() {
        BallotHouse x = backwards(4);
        House.boxOf(x, 1, House.ranked(x, 9, 0, 1, 2), House.ranked(x, 4, 3), House.ranked(x, 2, 2, 1));
        House.boxOf(x, 1, House.ranked(x, 5, 1, 2), House.ranked(x, 4, 2, 3, 0), House.ranked(x, 3, 3, 1));
        House.boxOf(x, 3, House.scored(x, 9, 9, 5, 0, 1));
        House.boxOf(x, 3, House.scored(x, 2, 0, 3, 8, 4), House.scored(x, 3, 1, 0, 0, 9));
        return x;
    }

    /** What was counted before, done or refused, leaves nothing behind for the next count. */
    private static void eachCountBeginsAnew() {
        for (int before = FIRST; before < BROKEN; before++) {
            for (int kind = FIRST; kind < BROKEN; kind++) {
                BallotHouse x = twoBoxesEach();
                CHECKS.due("count() by " + before, x.count(before, before == POINTS ? 2 : 0, 4), 4);
                CHECKS.due("count() that is refused", x.count(before, before == POINTS ? 0 : 2, 4), -3);
                BallotHouse y = twoBoxesEach();
                int box = kind == POINTS ? 3 : 1;
                CHECKS.due("count() by " + kind, x.count(kind, box, 2), y.count(kind, box, 2));
                sameResult("by " + kind + " behind one by " + before, x, y);
            }
        }
    }

    private static void sameResult(String count, BallotHouse x, BallotHouse y) {
        CHECKS.due("rounds() " + count, x.rounds(), y.rounds());
        for (int i = 0; i <= y.many(4); i++) {
            CHECKS.due("seat(" + i + ") " + count, x.seat(i), y.seat(i));
        }
        for (int i = 0; i < y.rounds(); i++) {
            CHECKS.due("round(" + i + ", 0) " + count, x.round(i, 0), y.round(i, 0));
            CHECKS.due("round(" + i + ", 1) " + count, x.round(i, 1), y.round(i, 1));
            for (int c = 0; c < 4; c++) {
                CHECKS.due("tally() " + count, x.tally(i, c, false), y.tally(i, c, false));
                CHECKS.due("tally() below " + count, x.tally(i, c, true), y.tally(i, c, true));
            }
        }
    }
}
