/**
 * A house where clubs have their votes counted: ballots in boxes, methods that
 * start only when they are asked for, and counts that tell each of their rounds.
 *
 * All rows are made with the object and used again, so that no call makes a new one.
 */
public final class BallotHouse {
    public static final int BAD = -1, FULL = -2, FINDING = -3, STATE = -4, SPENT = -6, NONE = -9;

    private static final int MOST_CANDIDATES = 10;
    private static final int MOST_BALLOTS = 60;
    private static final int MOST_PAPERS = 100000;
    private static final int MOST_POINTS = 9;
    private static final int MOST_BOXES = 8;
    private static final int MOST_PLACES = 40;
    private static final int MOST_METHODS = 20;
    private static final int ALL_MARKS = 255;
    private static final int MARKS = 8;
    private static final int MOST_SEATS = 30;
    /** No count has more rounds than it has seats or candidates. */
    private static final int MOST_ROUNDS = 30;
    private static final long GREATEST_NUMBER = 1000000000L;
    /** Far above the steps that a common divisor of two longs takes. */
    private static final int MOST_STEPS = 1000;

    private static final int PAPER = 0, RANKED = 1, SINGLE = 2, SCORED = 3;
    private static final int FIRST = 0, POINTS = 1, PLACES = 2, RUN_OFF = 3, WAYS = 4, TRANSFER = 5,
            DIVISORS = 6, ODD_DIVISORS = 7, BROKEN = 8;
    private static final int NOT_BEGUN = 0, STARTED = 1, FAILED = 2;
    private static final int HAS_SEAT = 1, IS_OUT = 2;
    private static final int NOTHING = 1, BEYOND = 2, UNLIKE = 3, NOUGHT = 4, SIZE = 5, MISFIT = 6;

    /** What each sort is, too. */
    private static final int[] SORT_ABOVE = {NONE, PAPER, RANKED, PAPER};
    /** What each kind is, too. */
    private static final int[] KIND_ABOVE = {NONE, NONE, POINTS, NONE, NONE, NONE, FIRST, DIVISORS, NONE};

    private final Candidates candidates;
    private final Ballots ballots;
    private final Boxes boxes;
    private final Methods methods;
    private final Poll poll;
    private final Plain plain;
    private final Ways ways;
    private final Transfer transfer;
    /** The latest count that was not refused, and the one that the next count writes to. */
    private Result latest;
    private Result spare;
    private int unlikePlace;
    private int latestFinding;
    private final int[] timesFound;

    public BallotHouse() {
        candidates = new Candidates();
        ballots = new Ballots();
        boxes = new Boxes();
        methods = new Methods();
        poll = new Poll(candidates, ballots);
        plain = new Plain(poll);
        ways = new Ways(poll);
        transfer = new Transfer(poll);
        latest = new Result();
        spare = new Result();
        unlikePlace = NONE;
        latestFinding = 0;
        timesFound = new int[MISFIT + 1];
    }

    // ---- 1 candidates, ballots, boxes

    public int stand() {
        return candidates.come();
    }

    public int draw(int i, int j) {
        if (!candidates.has(i) || !candidates.has(j)) {
            return BAD;
        }
        candidates.change(i, j);
        return 1;
    }

    public int drawn(int i) {
        return candidates.has(i) ? candidates.row[i] : BAD;
    }

    public int ballot(int sort, int papers) {
        if (!isSort(sort) || papers < 1 || papers > MOST_PAPERS) {
            return BAD;
        }
        return ballots.come(sort, papers);
    }

    public int rank(int ballot, int candidate) {
        if (!ballots.has(ballot) || !candidates.has(candidate)) {
            return BAD;
        }
        if (!ballots.isOf(ballot, RANKED)) {
            return found(UNLIKE);
        }
        if (!ballots.hasRoomFor(ballot, candidate)) {
            return STATE;
        }
        return ballots.append(ballot, candidate);
    }

    public int score(int ballot, int candidate, int points) {
        if (!ballots.has(ballot) || !candidates.has(candidate) || points < 0 || points > MOST_POINTS) {
            return BAD;
        }
        if (!ballots.isOf(ballot, SCORED)) {
            return found(UNLIKE);
        }
        int before = ballots.row[ballot][candidate];
        ballots.row[ballot][candidate] = points;
        return before;
    }

    public int told(int ballot, int what) {
        if (!ballots.has(ballot) || what < 0) {
            return BAD;
        }
        switch (what) {
            case 0: return ballots.sort[ballot];
            case 1: return ballots.papers[ballot];
            case 2: return ballots.onIt[ballot];
            default: return what - 3 < written(ballot) ? ballots.row[ballot][what - 3] : NONE;
        }
    }

    public int is(int ballot, int sort) {
        if (!ballots.has(ballot) || !isSort(sort)) {
            return BAD;
        }
        return ballots.isOf(ballot, sort) ? 1 : 0;
    }

    public int box(int sort, int n) {
        if (!isSort(sort) || n > MOST_PLACES) {
            return BAD;
        }
        if (boxes.many == MOST_BOXES) {
            return FULL;
        }
        if (n < 0) {
            return found(SIZE);
        }
        return boxes.come(sort, n);
    }

    public int put(int box, int i, int ballot) {
        if (!boxes.has(box) || (ballot != NONE && !ballots.has(ballot))) {
            return BAD;
        }
        if (!boxes.hasPlace(box, i)) {
            return found(BEYOND);
        }
        if (ballot != NONE && !ballots.isOf(ballot, boxes.sort[box])) {
            return found(MISFIT);
        }
        boxes.place[box][i] = ballot;
        return 1;
    }

    public int pour(int box, int i, int other, int j, int n) {
        if (!boxes.has(box) || !boxes.has(other)) {
            return BAD;
        }
        if (boxes.sort[box] != boxes.sort[other]) {
            return found(MISFIT);
        }
        if (!boxes.hasPlaces(box, i, n) || !boxes.hasPlaces(other, j, n)) {
            return found(BEYOND);
        }
        boxes.copy(box, i, other, j, n);
        return 1;
    }

    public int at(int box, int i) {
        if (!boxes.has(box)) {
            return BAD;
        }
        int missing = missingAt(box, i);
        return missing != 0 ? found(missing) : boxes.place[box][i];
    }

    public int share(int box, int i) {
        if (!boxes.has(box)) {
            return BAD;
        }
        int missing = missingAt(box, i);
        if (missing != 0) {
            return found(missing);
        }
        return thousandths(ballots.papersAt(boxes.place[box][i]), papersIn(box));
    }

    public int weight(int ballot, int candidate) {
        if (!ballots.has(ballot) || !candidates.has(candidate)) {
            return BAD;
        }
        if (!ballots.isOf(ballot, SCORED)) {
            return found(UNLIKE);
        }
        int all = ballots.allPoints(ballot);
        if (all == 0) {
            return found(NOUGHT);
        }
        return thousandths(ballots.row[ballot][candidate], all);
    }

    // ---- 2 methods

    public int method(int kind, int rank, int marks, int need) {
        if (!isKind(kind) || marks < 0 || marks > ALL_MARKS || (need != NONE && !methods.has(need))) {
            return BAD;
        }
        return methods.come(kind, rank, marks, need);
    }

    public int methodOf(int method, int what) {
        if (!methods.has(method)) {
            return BAD;
        }
        switch (what) {
            case 0: return methods.kind[method];
            case 1: return methods.begun[method];
            // One that is begun stays so: it was tried once, whatever came of it.
            case 2: return methods.begun[method] == NOT_BEGUN ? 0 : 1;
            case 3: return methods.need[method];
            default: return BAD;
        }
    }

    public int under(int method, int kind) {
        if (!methods.has(method) || !isKind(kind)) {
            return BAD;
        }
        return isUnder(methods.kind[method], kind, KIND_ABOVE) ? 1 : 0;
    }

    public int start(int method) {
        return methods.has(method) ? methods.begin(method) : BAD;
    }

    public int find(int mark) {
        return mark < 0 || mark >= MARKS ? BAD : methods.firstToStart(mark);
    }

    // ---- 3 counting

    public int count(int method, int box, int seats) {
        unlikePlace = NONE;
        if (!methods.has(method) || !boxes.has(box) || !maySeat(methods.kind[method], seats)) {
            return BAD;
        }
        if (methods.begin(method) != STARTED) {
            return STATE;
        }
        int kind = methods.kind[method];
        unlikePlace = firstUnlike(box, kind == POINTS ? SCORED : RANKED);
        if (unlikePlace != NONE) {
            return found(UNLIKE);
        }
        poll.take(boxes, box, seats);
        spare.clear();
        if (!countBy(kind, spare)) {
            return SPENT;
        }
        Result done = spare;
        spare = latest;
        latest = done;
        return latest.seats;
    }

    public int where() {
        return unlikePlace;
    }

    public int seat(int i) {
        return i >= 0 && i < latest.seats ? latest.seated[i] : NONE;
    }

    public int rounds() {
        return latest.rounds;
    }

    public int round(int i, int what) {
        if (what != 0 && what != 1) {
            return BAD;
        }
        if (!latest.hasRound(i)) {
            return NONE;
        }
        return what == 0 ? latest.happened[i] : latest.whom[i];
    }

    public long tally(int i, int candidate, boolean below) {
        if (!candidates.has(candidate)) {
            return BAD;
        }
        if (!latest.hasRound(i)) {
            return NONE;
        }
        return below ? latest.lower[i][candidate] : latest.upper[i][candidate];
    }

    public int many(int what) {
        switch (what) {
            case 0: return candidates.many;
            case 1: return ballots.many;
            case 2: return boxes.many;
            case 3: return methods.many;
            case 4: return latest.seats;
            default: return BAD;
        }
    }

    public int finding() {
        return latestFinding;
    }

    public int findings(int f) {
        return f >= NOTHING && f <= MISFIT ? timesFound[f] : BAD;
    }

    public long digest() {
        long h = 17;
        for (int i = 0; i < candidates.many; i++) {
            h = 31 * h + candidates.row[i];
        }
        for (int b = 0; b < ballots.many; b++) {
            h = digestBallot(h, b);
        }
        for (int b = 0; b < boxes.many; b++) {
            for (int i = 0; i < boxes.size[b]; i++) {
                h = 31 * h + boxes.place[b][i];
            }
        }
        for (int m = 0; m < methods.many; m++) {
            for (int what = 0; what <= 3; what++) {
                h = 31 * h + methodOf(m, what);
            }
        }
        return h;
    }

    // ---- what the calls share

    private long digestBallot(long before, int ballot) {
        long h = before;
        int end = 3 + written(ballot);
        for (int what = 0; what < end; what++) {
            h = 31 * h + told(ballot, what);
        }
        return h;
    }

    /** How many numbers stand on a ballot behind its head: those in order, or points for all. */
    private int written(int ballot) {
        return ballots.isOf(ballot, SCORED) ? candidates.many : ballots.onIt[ballot];
    }

    private int found(int finding) {
        latestFinding = finding;
        timesFound[finding]++;
        return FINDING;
    }

    /** The finding of one who looks for a ballot in a place; 0: there is one. */
    private int missingAt(int box, int i) {
        if (!boxes.hasPlace(box, i)) {
            return BEYOND;
        }
        return boxes.place[box][i] == NONE ? NOTHING : 0;
    }

    private int papersIn(int box) {
        int all = 0;
        for (int i = 0; i < boxes.size[box]; i++) {
            all += ballots.papersAt(boxes.place[box][i]);
        }
        return all;
    }

    private int firstUnlike(int box, int wanted) {
        for (int i = 0; i < boxes.size[box]; i++) {
            int ballot = boxes.place[box][i];
            if (ballots.has(ballot) && !ballots.isOf(ballot, wanted)) {
                return i;
            }
        }
        return NONE;
    }

    private boolean maySeat(int kind, int seats) {
        if (seats < 1 || seats > MOST_SEATS || candidates.many == 0) {
            return false;
        }
        return seats <= candidates.many || isUnder(kind, DIVISORS, KIND_ABOVE);
    }

    /** Counts the poll that was taken; false: a number grew too great. */
    private boolean countBy(int kind, Result result) {
        switch (kind) {
            case RUN_OFF:
                plain.runOff(result);
                return true;
            case WAYS:
                ways.seatByWays(result);
                return true;
            case TRANSFER:
                return transfer.seatByQuota(result);
            case DIVISORS:
                plain.seatByDivisors(1, result);
                return true;
            case ODD_DIVISORS:
                plain.seatByDivisors(2, result);
                return true;
            default:
                plain.seatByTallies(kind, result);
                return true;
        }
    }

    private static boolean isSort(int sort) {
        return sort >= 0 && sort < SORT_ABOVE.length;
    }

    private static boolean isKind(int kind) {
        return kind >= 0 && kind < KIND_ABOVE.length;
    }

    /** Whether one is the asked one, or is it by what stands above it. */
    private static boolean isUnder(int one, int asked, int[] above) {
        int now = one;
        for (int step = 0; step < above.length; step++) {
            if (now == asked) {
                return true;
            }
            if (now < 0 || now >= above.length) {
                return false;
            }
            now = above[now];
        }
        return false;
    }

    private static int thousandths(int part, int whole) {
        return whole < 1 ? 0 : 1000 * part / whole;
    }

    /** The candidates, and the row in which they stand for a draw. */
    private static final class Candidates {
        int many = 0;
        final int[] row = new int[MOST_CANDIDATES];

        boolean has(int number) {
            return number >= 0 && number < many;
        }

        int come() {
            if (many == MOST_CANDIDATES) {
                return FULL;
            }
            row[many] = many;
            many++;
            return many - 1;
        }

        void change(int i, int j) {
            int first = row[i];
            row[i] = row[j];
            row[j] = first;
        }
    }

    /** The ballots; the row of one holds its candidates in order, or the points for each. */
    private static final class Ballots {
        int many = 0;
        final int[] sort = new int[MOST_BALLOTS];
        final int[] papers = new int[MOST_BALLOTS];
        final int[] onIt = new int[MOST_BALLOTS];
        final int[][] row = new int[MOST_BALLOTS][MOST_CANDIDATES];

        boolean has(int ballot) {
            return ballot >= 0 && ballot < many;
        }

        int come(int itsSort, int itsPapers) {
            if (many == MOST_BALLOTS) {
                return FULL;
            }
            sort[many] = itsSort;
            papers[many] = itsPapers;
            many++;
            return many - 1;
        }

        boolean isOf(int ballot, int asked) {
            return isUnder(sort[ballot], asked, SORT_ABOVE);
        }

        boolean hasRoomFor(int ballot, int candidate) {
            int most = isOf(ballot, SINGLE) ? 1 : MOST_CANDIDATES;
            return onIt[ballot] < most && placeOf(ballot, candidate) == MOST_CANDIDATES;
        }

        int append(int ballot, int candidate) {
            row[ballot][onIt[ballot]] = candidate;
            onIt[ballot]++;
            return onIt[ballot];
        }

        /** Where a candidate is ranked; one that is not stands behind all places. */
        int placeOf(int ballot, int candidate) {
            for (int i = 0; i < onIt[ballot]; i++) {
                if (row[ballot][i] == candidate) {
                    return i;
                }
            }
            return MOST_CANDIDATES;
        }

        int papersAt(int ballot) {
            return has(ballot) ? papers[ballot] : 0;
        }

        int allPoints(int ballot) {
            int all = 0;
            for (int c = 0; c < MOST_CANDIDATES; c++) {
                all += row[ballot][c];
            }
            return all;
        }
    }

    /** The boxes, each with places for ballots of its sort. */
    private static final class Boxes {
        int many = 0;
        final int[] sort = new int[MOST_BOXES];
        final int[] size = new int[MOST_BOXES];
        final int[][] place = new int[MOST_BOXES][MOST_PLACES];
        private final int[] taken = new int[MOST_PLACES];

        boolean has(int box) {
            return box >= 0 && box < many;
        }

        boolean hasPlace(int box, int i) {
            return i >= 0 && i < size[box];
        }

        /** Whether there are n places from one on; none from the end on are there, too. */
        boolean hasPlaces(int box, int from, int n) {
            return from >= 0 && from <= size[box] && n >= 0 && n <= size[box] - from;
        }

        int come(int itsSort, int itsSize) {
            if (many == MOST_BOXES) {
                return FULL;
            }
            sort[many] = itsSort;
            size[many] = itsSize;
            for (int i = 0; i < itsSize; i++) {
                place[many][i] = NONE;
            }
            many++;
            return many - 1;
        }

        /** All are taken before one is laid down, as a box may be poured into itself. */
        void copy(int box, int from, int other, int to, int n) {
            for (int i = 0; i < n; i++) {
                taken[i] = place[box][from + i];
            }
            for (int i = 0; i < n; i++) {
                place[other][to + i] = taken[i];
            }
        }
    }

    /** The methods, and how far each is begun. */
    private static final class Methods {
        int many = 0;
        final int[] kind = new int[MOST_METHODS];
        final int[] begun = new int[MOST_METHODS];
        final int[] need = new int[MOST_METHODS];
        private final int[] rankOf = new int[MOST_METHODS];
        private final int[] marksOf = new int[MOST_METHODS];
        private final int[] chain = new int[MOST_METHODS];

        boolean has(int method) {
            return method >= 0 && method < many;
        }

        int come(int itsKind, int itsRank, int itsMarks, int itsNeed) {
            if (many == MOST_METHODS) {
                return FULL;
            }
            kind[many] = itsKind;
            rankOf[many] = itsRank;
            marksOf[many] = itsMarks;
            need[many] = itsNeed;
            many++;
            return many - 1;
        }

        /** Begins those that are not begun along the needs of a method, the last need first. */
        int begin(int method) {
            int length = 0;
            int next = method;
            while (length < MOST_METHODS && has(next) && begun[next] == NOT_BEGUN) {
                chain[length] = next;
                length++;
                next = need[next];
            }
            boolean needFailed = has(next) && begun[next] == FAILED;
            for (int i = length - 1; i >= 0; i--) {
                needFailed = needFailed || kind[chain[i]] == BROKEN;
                begun[chain[i]] = needFailed ? FAILED : STARTED;
            }
            return begun[method];
        }

        int firstToStart(int mark) {
            for (int tries = 0; tries < many; tries++) {
                int method = firstNotFailed(mark);
                if (method == NONE || begin(method) == STARTED) {
                    return method;
                }
            }
            return NONE;
        }

        /** One that has failed stays so: to pass it is the same as to start it again. */
        private int firstNotFailed(int mark) {
            int first = NONE;
            for (int m = 0; m < many; m++) {
                boolean asked = (marksOf[m] >> mark & 1) == 1 && begun[m] != FAILED;
                if (asked && (first == NONE || rankOf[m] > rankOf[first])) {
                    first = m;
                }
            }
            return first;
        }
    }

    /** What a count came to: its seats in order, and its rounds. */
    private static final class Result {
        int seats = 0;
        final int[] seated = new int[MOST_SEATS];
        int rounds = 0;
        final int[] happened = new int[MOST_ROUNDS];
        final int[] whom = new int[MOST_ROUNDS];
        final long[][] upper = new long[MOST_ROUNDS][MOST_CANDIDATES];
        final long[][] lower = new long[MOST_ROUNDS][MOST_CANDIDATES];

        void clear() {
            seats = 0;
            rounds = 0;
        }

        boolean hasRound(int i) {
            return i >= 0 && i < rounds;
        }

        void give(int candidate) {
            if (seats < MOST_SEATS) {
                seated[seats] = candidate;
                seats++;
            }
        }

        /** Keeps tallies for all who may ever stand: one that comes later has 0 by 1. */
        void note(int what, int candidate, Poll poll) {
            if (rounds == MOST_ROUNDS) {
                return;
            }
            happened[rounds] = what;
            whom[rounds] = candidate;
            for (int c = 0; c < MOST_CANDIDATES; c++) {
                upper[rounds][c] = poll.upper[c];
                lower[rounds][c] = poll.lower[c];
            }
            rounds++;
        }
    }

    /** What a count works on: the ballots of a box, those that are in, and their tallies. */
    private static final class Poll {
        final Candidates candidates;
        final Ballots ballots;
        final int[] lying = new int[MOST_PLACES];
        int many = 0;
        int seats = 0;
        final boolean[] in = new boolean[MOST_CANDIDATES];
        final long[] upper = new long[MOST_CANDIDATES];
        final long[] lower = new long[MOST_CANDIDATES];

        Poll(Candidates candidates, Ballots ballots) {
            this.candidates = candidates;
            this.ballots = ballots;
        }

        /** Takes the ballots of a box by places, passing empty ones; all candidates are in. */
        void take(Boxes boxes, int box, int itsSeats) {
            seats = itsSeats;
            many = 0;
            for (int i = 0; i < boxes.size[box]; i++) {
                if (ballots.has(boxes.place[box][i])) {
                    lying[many] = boxes.place[box][i];
                    many++;
                }
            }
            for (int c = 0; c < MOST_CANDIDATES; c++) {
                in[c] = candidates.has(c);
            }
            clearTallies();
        }

        void clearTallies() {
            for (int c = 0; c < MOST_CANDIDATES; c++) {
                upper[c] = 0;
                lower[c] = 1;
            }
        }

        int papersOf(int k) {
            return ballots.papers[lying[k]];
        }

        int allPapers() {
            int all = 0;
            for (int k = 0; k < many; k++) {
                all += papersOf(k);
            }
            return all;
        }

        int manyIn() {
            int all = 0;
            for (int c = 0; c < MOST_CANDIDATES; c++) {
                all += in[c] ? 1 : 0;
            }
            return all;
        }

        /** The first one on a ballot that is in, or NONE. */
        int firstIn(int k) {
            int ballot = lying[k];
            for (int i = 0; i < ballots.onIt[ballot]; i++) {
                int candidate = ballots.row[ballot][i];
                if (in[candidate]) {
                    return candidate;
                }
            }
            return NONE;
        }

        void tallyFirstIn() {
            clearTallies();
            for (int k = 0; k < many; k++) {
                int candidate = firstIn(k);
                if (candidate != NONE) {
                    upper[candidate] += papersOf(k);
                }
            }
        }

        /** The greatest tally of those in; of those alike the one ahead in the draw. */
        int greatestIn() {
            int greatest = NONE;
            for (int i = 0; i < candidates.many; i++) {
                int c = candidates.row[i];
                if (in[c] && (greatest == NONE || compareTallies(c, greatest) > 0)) {
                    greatest = c;
                }
            }
            return greatest;
        }

        /** The least tally of those in; of those alike the last one in the draw. */
        int leastIn() {
            int least = NONE;
            for (int i = 0; i < candidates.many; i++) {
                int c = candidates.row[i];
                if (in[c] && (least == NONE || compareTallies(c, least) <= 0)) {
                    least = c;
                }
            }
            return least;
        }

        /** No product overflows: the numbers of a tally are at most GREATEST_NUMBER. */
        private int compareTallies(int one, int other) {
            return Long.compare(upper[one] * lower[other], upper[other] * lower[one]);
        }
    }

    /** The counts whose tallies are whole papers. */
    private static final class Plain {
        private final Poll poll;
        private final int[] seatsOf = new int[MOST_CANDIDATES];
        private final int[] outs = new int[MOST_CANDIDATES];

        Plain(Poll poll) {
            this.poll = poll;
        }

        void seatByTallies(int kind, Result result) {
            tallyBy(kind);
            for (int s = 0; s < poll.seats; s++) {
                int candidate = poll.greatestIn();
                if (candidate == NONE) {
                    return;
                }
                result.note(HAS_SEAT, candidate, poll);
                result.give(candidate);
                poll.in[candidate] = false;
            }
        }

        private void tallyBy(int kind) {
            if (kind == POINTS) {
                tallyPoints();
            } else if (kind == PLACES) {
                tallyPlaces();
            } else {
                poll.tallyFirstIn();
            }
        }

        private void tallyPoints() {
            for (int k = 0; k < poll.many; k++) {
                for (int c = 0; c < poll.candidates.many; c++) {
                    poll.upper[c] += poll.papersOf(k) * poll.ballots.row[poll.lying[k]][c];
                }
            }
        }

        private void tallyPlaces() {
            int last = poll.candidates.many - 1;
            for (int k = 0; k < poll.many; k++) {
                int ballot = poll.lying[k];
                for (int i = 0; i < poll.ballots.onIt[ballot]; i++) {
                    poll.upper[poll.ballots.row[ballot][i]] += poll.papersOf(k) * (last - i);
                }
            }
        }

        /** The divisor of a candidate: 1 and so many times the seats that it has. */
        void seatByDivisors(int times, Result result) {
            poll.tallyFirstIn();
            for (int c = 0; c < MOST_CANDIDATES; c++) {
                seatsOf[c] = 0;
            }
            for (int s = 0; s < poll.seats; s++) {
                int candidate = greatestByDivisor(times);
                if (candidate == NONE) {
                    return;
                }
                result.note(HAS_SEAT, candidate, poll);
                result.give(candidate);
                seatsOf[candidate]++;
            }
        }

        private int greatestByDivisor(int times) {
            int greatest = NONE;
            for (int i = 0; i < poll.candidates.many; i++) {
                int c = poll.candidates.row[i];
                if (greatest == NONE || isMoreByDivisor(c, greatest, times)) {
                    greatest = c;
                }
            }
            return greatest;
        }

        private boolean isMoreByDivisor(int one, int other, int times) {
            long divisorOfOne = 1 + times * seatsOf[one];
            long divisorOfOther = 1 + times * seatsOf[other];
            return poll.upper[one] * divisorOfOther > poll.upper[other] * divisorOfOne;
        }

        void runOff(Result result) {
            int last = poll.candidates.many - 1;
            for (int r = 0; r < last; r++) {
                poll.tallyFirstIn();
                int candidate = poll.leastIn();
                if (candidate == NONE) {
                    return;
                }
                result.note(IS_OUT, candidate, poll);
                poll.in[candidate] = false;
                outs[r] = candidate;
            }
            poll.tallyFirstIn();
            int remaining = poll.greatestIn();
            result.note(HAS_SEAT, remaining, poll);
            result.give(remaining);
            for (int s = 1; s < poll.seats && s <= last; s++) {
                result.give(outs[last - s]);
            }
        }
    }

    /** The count by the strongest ways from one candidate to another. */
    private static final class Ways {
        private final Poll poll;
        private final int[] places = new int[MOST_CANDIDATES];
        private final int[][] ahead = new int[MOST_CANDIDATES][MOST_CANDIDATES];
        private final int[][] way = new int[MOST_CANDIDATES][MOST_CANDIDATES];

        Ways(Poll poll) {
            this.poll = poll;
        }

        void seatByWays(Result result) {
            compareAll();
            beginWays();
            strengthenWays();
            for (int s = 0; s < poll.seats; s++) {
                int candidate = firstUnbeaten();
                if (candidate == NONE) {
                    return;
                }
                poll.clearTallies();
                poll.upper[candidate] = leastWay(candidate);
                result.note(HAS_SEAT, candidate, poll);
                result.give(candidate);
                poll.in[candidate] = false;
            }
        }

        private void compareAll() {
            for (int x = 0; x < MOST_CANDIDATES; x++) {
                for (int y = 0; y < MOST_CANDIDATES; y++) {
                    ahead[x][y] = 0;
                }
            }
            for (int k = 0; k < poll.many; k++) {
                addBallot(k);
            }
        }

        private void addBallot(int k) {
            int n = poll.candidates.many;
            int papers = poll.papersOf(k);
            for (int c = 0; c < n; c++) {
                places[c] = poll.ballots.placeOf(poll.lying[k], c);
            }
            for (int x = 0; x < n; x++) {
                for (int y = 0; y < n; y++) {
                    ahead[x][y] += places[x] < places[y] ? papers : 0;
                }
            }
        }

        private void beginWays() {
            int n = poll.candidates.many;
            for (int x = 0; x < n; x++) {
                for (int y = 0; y < n; y++) {
                    way[x][y] = ahead[x][y] > ahead[y][x] ? ahead[x][y] : 0;
                }
            }
        }

        private void strengthenWays() {
            int n = poll.candidates.many;
            for (int via = 0; via < n; via++) {
                for (int x = 0; x < n; x++) {
                    for (int y = 0; y < n; y++) {
                        way[x][y] = Math.max(way[x][y], Math.min(way[x][via], way[via][y]));
                    }
                }
            }
        }

        private int firstUnbeaten() {
            for (int i = 0; i < poll.candidates.many; i++) {
                int candidate = poll.candidates.row[i];
                if (poll.in[candidate] && isUnbeaten(candidate)) {
                    return candidate;
                }
            }
            return NONE;
        }

        private boolean isUnbeaten(int candidate) {
            for (int other = 0; other < poll.candidates.many; other++) {
                if (poll.in[other] && way[other][candidate] > way[candidate][other]) {
                    return false;
                }
            }
            return true;
        }

        /** The least way to the others that are in; 0 if there is no other. */
        private int leastWay(int candidate) {
            int least = NONE;
            for (int other = 0; other < poll.candidates.many; other++) {
                boolean counts = other != candidate && poll.in[other];
                if (counts && (least == NONE || way[candidate][other] < least)) {
                    least = way[candidate][other];
                }
            }
            return least == NONE ? 0 : least;
        }
    }

    /** The count by a quota, with what is above it going on in exact fractions. */
    private static final class Transfer {
        private final Poll poll;
        private final long[] weightUpper = new long[MOST_PLACES];
        private final long[] weightLower = new long[MOST_PLACES];
        private final int[] owner = new int[MOST_PLACES];
        private final Fraction fraction = new Fraction();

        Transfer(Poll poll) {
            this.poll = poll;
        }

        /** False: a number grew too great. */
        boolean seatByQuota(Result result) {
            for (int k = 0; k < poll.many; k++) {
                weightUpper[k] = poll.papersOf(k);
                weightLower[k] = 1;
            }
            long quota = poll.seats < 1 ? 1 : poll.allPapers() / (poll.seats + 1) + 1;
            for (int r = 0; r < MOST_CANDIDATES && result.seats < poll.seats; r++) {
                int greatest = tallyWeights() ? poll.greatestIn() : NONE;
                if (greatest == NONE || !endRound(greatest, quota, result)) {
                    return false;
                }
            }
            return true;
        }

        private boolean tallyWeights() {
            poll.clearTallies();
            for (int k = 0; k < poll.many; k++) {
                int candidate = poll.firstIn(k);
                owner[k] = candidate;
                if (candidate != NONE && !addWeight(k, candidate)) {
                    return false;
                }
            }
            return true;
        }

        private boolean addWeight(int k, int candidate) {
            fraction.become(poll.upper[candidate], poll.lower[candidate]);
            fraction.add(weightUpper[k], weightLower[k]);
            poll.upper[candidate] = fraction.upper;
            poll.lower[candidate] = fraction.lower;
            return fraction.fits();
        }

        private boolean endRound(int greatest, long quota, Result result) {
            boolean allAreSeated = poll.manyIn() <= poll.seats - result.seats;
            boolean reachesQuota = poll.upper[greatest] >= quota * poll.lower[greatest];
            if (!allAreSeated && !reachesQuota) {
                return leaveOut(poll.leastIn(), result);
            }
            result.note(HAS_SEAT, greatest, poll);
            result.give(greatest);
            poll.in[greatest] = false;
            return allAreSeated || passOn(greatest, quota);
        }

        private boolean leaveOut(int least, Result result) {
            if (least == NONE) {
                return false;
            }
            result.note(IS_OUT, least, poll);
            poll.in[least] = false;
            return true;
        }

        /** Leaves on the ballots of a seated one what its tally has above the quota. */
        private boolean passOn(int seated, long quota) {
            long upper = poll.upper[seated];
            long lower = poll.lower[seated];
            fraction.become(upper - quota * lower, lower);
            if (!fraction.fits()) {
                return false;
            }
            fraction.multiply(lower, upper);
            if (!fraction.fits()) {
                return false;
            }
            long timesUpper = fraction.upper;
            long timesLower = fraction.lower;
            boolean allFit = true;
            for (int k = 0; k < poll.many && allFit; k++) {
                if (owner[k] == seated) {
                    fraction.become(weightUpper[k], weightLower[k]);
                    fraction.multiply(timesUpper, timesLower);
                    weightUpper[k] = fraction.upper;
                    weightLower[k] = fraction.lower;
                    allFit = fraction.fits();
                }
            }
            return allFit;
        }
    }

    /**
     * A fraction in lowest terms, worked on in its place. Of numbers that fit, two
     * products and their sum stay below what a long holds.
     */
    private static final class Fraction {
        long upper = 0;
        long lower = 1;

        void become(long newUpper, long newLower) {
            long common = newUpper;
            long rest = newLower;
            for (int step = 0; step < MOST_STEPS && rest != 0; step++) {
                long next = common % rest;
                common = rest;
                rest = next;
            }
            upper = common < 1 ? 0 : newUpper / common;
            lower = common < 1 ? 1 : newLower / common;
        }

        void add(long otherUpper, long otherLower) {
            become(upper * otherLower + otherUpper * lower, lower * otherLower);
        }

        void multiply(long otherUpper, long otherLower) {
            become(upper * otherUpper, lower * otherLower);
        }

        boolean fits() {
            return upper <= GREATEST_NUMBER && lower <= GREATEST_NUMBER;
        }
    }
}
