import java.util.Arrays;
import java.util.Random;

/** All promises: runs of up to 512 calls, each answered by the class and by the Model alike. */
public final class ModelTest {
    private static final int RUNS = 20000;
    /** The document promises nothing of an object behind its 512th call. */
    private static final int MOST_CALLS = 512;
    /** What is asked of a house at its end: digest(), finding() and six times findings(). */
    private static final int LAST_CALLS = 8;
    private static final int MOST_ASKED_OF_A_COUNT = 50;
    private static final int CALLS = 29;
    private static final int COUNT = 20;
    private static final int[] EDGES = {-1, -9, -8, -10, 8, 9, 10, 20, 30, 31, 40, 41, 60, 255, 256,
        Integer.MIN_VALUE, Integer.MAX_VALUE};

    private final Checks checks;
    private final Random random;
    private final BallotHouse x = new BallotHouse();
    private final Model y = new Model();
    private final int seed;
    private final int greatestPapers;
    private final int mostCandidates;
    private final boolean rankedMostly;
    private int calls = 0;
    private int places = 14;
    private int edgesOneOf = 40;

    private ModelTest(Checks checks, int seed) {
        this.checks = checks;
        this.seed = seed;
        random = new Random(seed);
        int[] papers = {3, 12, 100, 3000, 100000};
        greatestPapers = papers[random.nextInt(papers.length)];
        mostCandidates = 1 + random.nextInt(12);
        rankedMostly = random.nextInt(3) > 0;
    }

    public static void main(String[] args) {
        Checks checks = new Checks();
        int[] counts = new int[3];
        for (int seed = 0; seed < RUNS; seed++) {
            ModelTest run = new ModelTest(checks, seed);
            if (seed % 2 == 0) {
                run.fillForCounts();
            } else if (seed % 8 == 1) {
                run.fillUp();
            }
            run.goOn(counts);
            run.end();
        }
        System.out.println(counts[0] + " counts spent, " + counts[1] + " done, " + counts[2] + " otherwise refused");
        checks.holds("some counts are spent", counts[0] > 1000);
        checks.holds("many counts are done", counts[1] > 50000);
        checks.end();
    }

    /** A full box of RANKED ballots and a TRANSFER at once, as calls at random seldom come to one. */
    private void fillForCounts() {
        int candidates = 2 + random.nextInt(7);
        for (int c = 0; c < candidates; c++) {
            make(0);
        }
        int ballots = 2 + random.nextInt(9);
        make(8, 1, ballots + random.nextInt(3));
        make(14, 5, 1, 255, -9);
        for (int b = 0; b < ballots; b++) {
            make(3, 1, 1 + random.nextInt(greatestPapers));
            int onIt = random.nextInt(candidates + 1);
            for (int i = 0; i < onIt; i++) {
                make(4, b, random.nextInt(candidates));
            }
            make(9, 0, b, b);
        }
    }

    /** As much of all as a house takes, and one call more of each: calls at random do not come so far. */
    private void fillUp() {
        places = 40;
        edgesOneOf = 12;
        for (int c = 0; c <= 10; c++) {
            make(0);
        }
        for (int b = 0; b <= 60; b++) {
            make(3, sort(), 1 + random.nextInt(greatestPapers));
        }
        for (int b = 0; b <= 8; b++) {
            make(8, sort(), random.nextInt(3) == 0 ? 40 : random.nextInt(41));
        }
        for (int m = 0; m <= 20; m++) {
            make(14, m % 9, random.nextInt(3), random.nextInt(256), m == 0 || random.nextInt(2) == 0 ? -9 : m - 1);
        }
    }

    private void goOn(int[] counts) {
        int end = calls + random.nextInt(MOST_CALLS - LAST_CALLS - calls);
        while (calls < end) {
            int[] p = new int[5];
            int call = next(p, calls, end);
            long got = make(call, p);
            if (call == COUNT) {
                counts[got == Model.SPENT ? 0 : got > 0 ? 1 : 2]++;
                askOfCount(Math.min(MOST_ASKED_OF_A_COUNT, MOST_CALLS - LAST_CALLS - calls));
            }
        }
    }

    private long make(int call, int... given) {
        int[] p = Arrays.copyOf(given, 5);
        long got = house(call, p);
        calls++;
        checks.due("seed " + seed + ", call " + calls + ": " + name(call, p), got, model(call, p));
        if (got == Model.FINDING && calls < MOST_CALLS - LAST_CALLS) {
            checks.due("finding() behind it", x.finding(), y.latestFinding);
            calls++;
        }
        return got;
    }

    private void end() {
        checks.due("digest() of seed " + seed, x.digest(), y.digest());
        checks.due("finding() of seed " + seed, x.finding(), y.latestFinding);
        for (int f = 1; f <= 6; f++) {
            checks.due("findings(" + f + ") of seed " + seed, x.findings(f), y.findings(f));
        }
    }

    private static String name(int call, int[] p) {
        StringBuilder text = new StringBuilder("call " + call + " with");
        for (int v : p) {
            text.append(' ').append(v);
        }
        return text.toString();
    }

    private int number(int bound) {
        if (random.nextInt(edgesOneOf) == 0) {
            return EDGES[random.nextInt(EDGES.length)];
        }
        return random.nextInt(Math.max(1, bound));
    }

    /** Fills p with what the next call is given: early calls build, later ones ask. */
    private int next(int[] p, int i, int calls) {
        if (y.draw.size() < mostCandidates && random.nextInt(i < 20 ? 2 : 90) == 0) {
            return 0;
        }
        int call = random.nextInt(10) < (i < calls / 2 ? 7 : 3)
            ? new int[] {3, 4, 4, 4, 4, 5, 5, 8, 9, 9, 9, 10, 14, 1}[random.nextInt(14)]
            : random.nextInt(10) < 4 ? 20 : random.nextInt(CALLS);
        int candidates = y.draw.size();
        int ballots = y.ballots.size();
        int boxes = y.boxes.size();
        int methods = y.methods.size();
        switch (call) {
            case 1 -> set(p, number(candidates), number(candidates));
            case 2 -> set(p, number(candidates));
            case 3 -> set(p, sort(), 1 + number(greatestPapers));
            case 4, 13 -> set(p, number(ballots), number(candidates));
            case 5 -> set(p, number(ballots), number(candidates), number(10));
            case 6 -> set(p, number(ballots), number(14));
            case 7 -> set(p, number(ballots), number(4));
            case 8 -> set(p, sort(), random.nextInt(6) == 0 ? number(41) : 4 + number(12));
            case 9 -> set(p, number(boxes), number(places), random.nextInt(12) == 0 ? -9 : number(ballots));
            case 10 -> set(p, number(boxes), number(places / 2), number(boxes), number(places / 2), number(places / 2));
            case 11, 12 -> set(p, number(boxes), number(places));
            case 14 -> set(p, random.nextInt(4) == 0 ? 5 : number(9), random.nextInt(5) - 2, random.nextInt(256),
                random.nextInt(3) == 0 ? number(methods) : -9);
            case 15, 16 -> set(p, number(methods), call == 15 ? number(5) : number(9));
            case 17 -> set(p, number(methods));
            case 18 -> set(p, number(8));
            case 20 -> set(p, number(methods), number(boxes), 1 + number(random.nextInt(6) == 0 ? 30 : candidates));
            case 23, 24 -> set(p, number(12), call == 23 ? number(2) : number(candidates), number(2));
            default -> set(p, number(8));
        }
        return call;
    }

    private int sort() {
        return rankedMostly && random.nextInt(4) > 0 ? 1 : number(4);
    }

    private static void set(int[] p, int... values) {
        System.arraycopy(values, 0, p, 0, values.length);
    }

    /** Asks for what a count came to; of many rounds, from some round on, as many as may be asked. */
    private void askOfCount(int mostAsked) {
        int seats = y.many(4) + 1;
        int perRound = 2 + 2 * y.draw.size();
        int rounds = Math.min(y.rounds(), (mostAsked - 2 - seats) / perRound);
        if (mostAsked < 2 + seats) {
            return;
        }
        checks.due("where() of seed " + seed, x.where(), y.where);
        checks.due("rounds() of seed " + seed, x.rounds(), y.rounds());
        for (int i = 0; i < seats; i++) {
            checks.due("seat(" + i + ") of seed " + seed, x.seat(i), y.seat(i));
        }
        int from = random.nextInt(Math.max(1, y.rounds()));
        for (int i = from; i < from + rounds; i++) {
            askOfRound(i % y.rounds());
        }
        calls += 2 + seats + rounds * perRound;
    }

    private void askOfRound(int i) {
        checks.due("round(" + i + ", 0) of seed " + seed, x.round(i, 0), y.round(i, 0));
        checks.due("round(" + i + ", 1) of seed " + seed, x.round(i, 1), y.round(i, 1));
        for (int c = 0; c < y.draw.size(); c++) {
            String tally = "tally(" + i + ", " + c + ") of seed " + seed;
            checks.due(tally, x.tally(i, c, false), y.tally(i, c, false));
            checks.due(tally, x.tally(i, c, true), y.tally(i, c, true));
        }
    }

    private long house(int call, int[] p) {
        return switch (call) {
            case 0 -> x.stand();
            case 1 -> x.draw(p[0], p[1]);
            case 2 -> x.drawn(p[0]);
            case 3 -> x.ballot(p[0], p[1]);
            case 4 -> x.rank(p[0], p[1]);
            case 5 -> x.score(p[0], p[1], p[2]);
            case 6 -> x.told(p[0], p[1]);
            case 7 -> x.is(p[0], p[1]);
            case 8 -> x.box(p[0], p[1]);
            case 9 -> x.put(p[0], p[1], p[2]);
            case 10 -> x.pour(p[0], p[1], p[2], p[3], p[4]);
            case 11 -> x.at(p[0], p[1]);
            case 12 -> x.share(p[0], p[1]);
            case 13 -> x.weight(p[0], p[1]);
            case 14 -> x.method(p[0], p[1], p[2], p[3]);
            case 15 -> x.methodOf(p[0], p[1]);
            case 16 -> x.under(p[0], p[1]);
            case 17 -> x.start(p[0]);
            case 18 -> x.find(p[0]);
            case 19 -> x.where();
            case 20 -> x.count(p[0], p[1], p[2]);
            case 21 -> x.seat(p[0]);
            case 22 -> x.rounds();
            case 23 -> x.round(p[0], p[1]);
            case 24 -> x.tally(p[0], p[1], p[2] == 1);
            case 25 -> x.many(p[0]);
            case 26 -> x.finding();
            case 27 -> x.findings(p[0]);
            default -> x.digest();
        };
    }

    private long model(int call, int[] p) {
        return switch (call) {
            case 0 -> y.stand();
            case 1 -> y.draw(p[0], p[1]);
            case 2 -> y.drawn(p[0]);
            case 3 -> y.ballot(p[0], p[1]);
            case 4 -> y.rank(p[0], p[1]);
            case 5 -> y.score(p[0], p[1], p[2]);
            case 6 -> y.told(p[0], p[1]);
            case 7 -> y.is(p[0], p[1]);
            case 8 -> y.box(p[0], p[1]);
            case 9 -> y.put(p[0], p[1], p[2]);
            case 10 -> y.pour(p[0], p[1], p[2], p[3], p[4]);
            case 11 -> y.at(p[0], p[1]);
            case 12 -> y.share(p[0], p[1]);
            case 13 -> y.weight(p[0], p[1]);
            case 14 -> y.method(p[0], p[1], p[2], p[3]);
            case 15 -> y.methodOf(p[0], p[1]);
            case 16 -> y.under(p[0], p[1]);
            case 17 -> y.start(p[0]);
            case 18 -> y.find(p[0]);
            case 19 -> y.where;
            case 20 -> y.count(p[0], p[1], p[2]);
            case 21 -> y.seat(p[0]);
            case 22 -> y.rounds();
            case 23 -> y.round(p[0], p[1]);
            case 24 -> y.tally(p[0], p[1], p[2] == 1);
            case 25 -> y.many(p[0]);
            case 26 -> y.latestFinding;
            case 27 -> y.findings(p[0]);
            default -> y.digest();
        };
    }
}
