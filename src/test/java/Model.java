import java.math.BigInteger;
import java.util.ArrayList;
import java.util.Arrays;
import java.util.Collections;
import java.util.Comparator;
import java.util.HashSet;
import java.util.List;
import java.util.Set;

/**
 * The document written down a second time, with the Java library and without care for
 * speed or room, so that both programs are unlikely to have the same fault.
 */
final class Model {
    static final int BAD = -1, FULL = -2, FINDING = -3, STATE = -4, SPENT = -6, NONE = -9;

    static final class Ballot {
        int sort;
        int papers;
        List<Integer> order = new ArrayList<>();
        int[] points = new int[10];
    }

    static final class Box {
        int sort;
        Ballot[] places;
    }

    static final class Method {
        int kind;
        int rank;
        int marks;
        int need;
        int begun;
        int trials;
    }

    static final class Round {
        int what;
        int candidate;
        Ratio[] tallies;
    }

    static final class Result {
        List<Integer> seats = new ArrayList<>();
        List<Round> rounds = new ArrayList<>();
    }

    /** What a count throws where a number is too great. */
    static final class TooGreat extends RuntimeException {
        private static final long serialVersionUID = 1;
    }

    record Ratio(BigInteger upper, BigInteger lower) implements Comparable<Ratio> {
        static final Ratio ZERO = of(0);

        static Ratio of(long whole) {
            return new Ratio(BigInteger.valueOf(whole), BigInteger.ONE);
        }

        static Ratio lowest(BigInteger upper, BigInteger lower) {
            BigInteger common = upper.gcd(lower);
            BigInteger most = BigInteger.valueOf(1000000000);
            Ratio ratio = new Ratio(upper.divide(common), lower.divide(common));
            if (ratio.upper.compareTo(most) > 0 || ratio.lower.compareTo(most) > 0) {
                throw new TooGreat();
            }
            return ratio;
        }

        Ratio plus(Ratio o) {
            return lowest(upper.multiply(o.lower).add(o.upper.multiply(lower)), lower.multiply(o.lower));
        }

        Ratio less(Ratio o) {
            return lowest(upper.multiply(o.lower).subtract(o.upper.multiply(lower)), lower.multiply(o.lower));
        }

        Ratio times(Ratio o) {
            return lowest(upper.multiply(o.upper), lower.multiply(o.lower));
        }

        Ratio by(Ratio o) {
            return lowest(upper.multiply(o.lower), lower.multiply(o.upper));
        }

        @Override
        public int compareTo(Ratio o) {
            return upper.multiply(o.lower).compareTo(o.upper.multiply(lower));
        }
    }

    final List<Integer> draw = new ArrayList<>();
    final List<Ballot> ballots = new ArrayList<>();
    final List<Box> boxes = new ArrayList<>();
    final List<Method> methods = new ArrayList<>();
    final int[] found = new int[7];
    int latestFinding = 0;
    int where = NONE;
    Result latest = new Result();

    private static boolean isIn(int i, List<?> list) {
        return i >= 0 && i < list.size();
    }

    private int finding(int f) {
        latestFinding = f;
        found[f]++;
        return FINDING;
    }

    private static boolean sortIs(int sort, int asked) {
        return switch (asked) {
            case 0 -> true;
            case 1 -> sort == 1 || sort == 2;
            default -> sort == asked;
        };
    }

    int stand() {
        if (draw.size() == 10) {
            return FULL;
        }
        draw.add(draw.size());
        return draw.size() - 1;
    }

    int draw(int i, int j) {
        if (!isIn(i, draw) || !isIn(j, draw)) {
            return BAD;
        }
        Collections.swap(draw, i, j);
        return 1;
    }

    int drawn(int i) {
        return isIn(i, draw) ? draw.get(i) : BAD;
    }

    int ballot(int sort, int papers) {
        if (sort < 0 || sort > 3 || papers < 1 || papers > 100000) {
            return BAD;
        }
        if (ballots.size() == 60) {
            return FULL;
        }
        Ballot b = new Ballot();
        b.sort = sort;
        b.papers = papers;
        ballots.add(b);
        return ballots.size() - 1;
    }

    int rank(int ballot, int candidate) {
        if (!isIn(ballot, ballots) || !isIn(candidate, draw)) {
            return BAD;
        }
        Ballot b = ballots.get(ballot);
        if (b.sort == 0 || b.sort == 3) {
            return finding(3);
        }
        if (b.order.contains(candidate) || b.sort == 2 && b.order.size() == 1) {
            return STATE;
        }
        b.order.add(candidate);
        return b.order.size();
    }

    int score(int ballot, int candidate, int points) {
        if (!isIn(ballot, ballots) || !isIn(candidate, draw) || points < 0 || points > 9) {
            return BAD;
        }
        Ballot b = ballots.get(ballot);
        if (b.sort != 3) {
            return finding(3);
        }
        int before = b.points[candidate];
        b.points[candidate] = points;
        return before;
    }

    int told(int ballot, int what) {
        if (!isIn(ballot, ballots) || what < 0) {
            return BAD;
        }
        Ballot b = ballots.get(ballot);
        if (what < 3) {
            return new int[] {b.sort, b.papers, b.order.size()}[what];
        }
        if (b.sort == 3) {
            return isIn(what - 3, draw) ? b.points[what - 3] : NONE;
        }
        return isIn(what - 3, b.order) ? b.order.get(what - 3) : NONE;
    }

    int is(int ballot, int sort) {
        if (!isIn(ballot, ballots) || sort < 0 || sort > 3) {
            return BAD;
        }
        return sortIs(ballots.get(ballot).sort, sort) ? 1 : 0;
    }

    int box(int sort, int n) {
        if (sort < 0 || sort > 3 || n > 40) {
            return BAD;
        }
        if (boxes.size() == 8) {
            return FULL;
        }
        if (n < 0) {
            return finding(5);
        }
        Box b = new Box();
        b.sort = sort;
        b.places = new Ballot[n];
        boxes.add(b);
        return boxes.size() - 1;
    }

    int put(int box, int i, int ballot) {
        if (!isIn(box, boxes) || ballot != NONE && !isIn(ballot, ballots)) {
            return BAD;
        }
        Box b = boxes.get(box);
        if (i < 0 || i >= b.places.length) {
            return finding(2);
        }
        if (ballot == NONE) {
            b.places[i] = null;
            return 1;
        }
        if (!sortIs(ballots.get(ballot).sort, b.sort)) {
            return finding(6);
        }
        b.places[i] = ballots.get(ballot);
        return 1;
    }

    int pour(int box, int i, int other, int j, int n) {
        if (!isIn(box, boxes) || !isIn(other, boxes)) {
            return BAD;
        }
        Box from = boxes.get(box);
        Box to = boxes.get(other);
        if (from.sort != to.sort) {
            return finding(6);
        }
        if (i < 0 || j < 0 || n < 0 || (long) i + n > from.places.length || (long) j + n > to.places.length) {
            return finding(2);
        }
        System.arraycopy(from.places, i, to.places, j, n);
        return 1;
    }

    int at(int box, int i) {
        if (!isIn(box, boxes)) {
            return BAD;
        }
        Ballot[] places = boxes.get(box).places;
        if (i < 0 || i >= places.length) {
            return finding(2);
        }
        return places[i] == null ? finding(1) : ballots.indexOf(places[i]);
    }

    int share(int box, int i) {
        int ballot = at(box, i);
        if (ballot < 0) {
            return ballot;
        }
        long all = 0;
        for (Ballot b : boxes.get(box).places) {
            all += b == null ? 0 : b.papers;
        }
        return (int) (1000L * ballots.get(ballot).papers / all);
    }

    int weight(int ballot, int candidate) {
        if (!isIn(ballot, ballots) || !isIn(candidate, draw)) {
            return BAD;
        }
        Ballot b = ballots.get(ballot);
        if (b.sort != 3) {
            return finding(3);
        }
        int all = Arrays.stream(b.points).sum();
        return all == 0 ? finding(4) : 1000 * b.points[candidate] / all;
    }

    int method(int kind, int rank, int marks, int need) {
        if (kind < 0 || kind > 8 || marks < 0 || marks > 255 || need != NONE && !isIn(need, methods)) {
            return BAD;
        }
        if (methods.size() == 20) {
            return FULL;
        }
        Method m = new Method();
        m.kind = kind;
        m.rank = rank;
        m.marks = marks;
        m.need = need;
        methods.add(m);
        return methods.size() - 1;
    }

    int methodOf(int method, int what) {
        if (!isIn(method, methods) || what < 0 || what > 3) {
            return BAD;
        }
        Method m = methods.get(method);
        return new int[] {m.kind, m.begun, m.trials, m.need}[what];
    }

    int under(int method, int kind) {
        if (!isIn(method, methods) || kind < 0 || kind > 8) {
            return BAD;
        }
        int own = methods.get(method).kind;
        boolean is = own == kind || own == 2 && kind == 1 || own == 6 && kind == 0 || own == 7 && (kind == 6 || kind == 0);
        return is ? 1 : 0;
    }

    int start(int method) {
        if (!isIn(method, methods)) {
            return BAD;
        }
        Method m = methods.get(method);
        if (m.begun == 0) {
            m.trials++;
            boolean failed = m.need != NONE && start(m.need) == 2;
            m.begun = failed || m.kind == 8 ? 2 : 1;
        }
        return m.begun;
    }

    int find(int mark) {
        if (mark < 0 || mark > 7) {
            return BAD;
        }
        List<Integer> marked = new ArrayList<>();
        for (int m = 0; m < methods.size(); m++) {
            if ((methods.get(m).marks & 1 << mark) != 0) {
                marked.add(m);
            }
        }
        marked.sort(Comparator.comparing((Integer m) -> methods.get(m).rank).reversed());
        for (int m : marked) {
            if (start(m) == 1) {
                return m;
            }
        }
        return NONE;
    }

    int count(int method, int box, int seats) {
        where = NONE;
        if (!isIn(method, methods) || !isIn(box, boxes) || seats < 1 || seats > 30 || draw.isEmpty()) {
            return BAD;
        }
        int kind = methods.get(method).kind;
        if (seats > draw.size() && kind != 6 && kind != 7) {
            return BAD;
        }
        if (start(method) == 2) {
            return STATE;
        }
        List<Ballot> cast = new ArrayList<>();
        Ballot[] places = boxes.get(box).places;
        for (int i = 0; i < places.length; i++) {
            if (places[i] != null && !sortIs(places[i].sort, kind == 1 ? 3 : 1)) {
                where = i;
                return finding(3);
            }
            if (places[i] != null) {
                cast.add(places[i]);
            }
        }
        try {
            latest = counted(kind, cast, seats);
        } catch (TooGreat e) {
            return SPENT;
        }
        return latest.seats.size();
    }

    private Result counted(int kind, List<Ballot> cast, int seats) {
        return switch (kind) {
            case 3 -> runOff(cast, seats);
            case 4 -> ways(cast, seats);
            case 5 -> transfer(cast, seats);
            case 6 -> divisors(cast, seats, 1);
            case 7 -> divisors(cast, seats, 2);
            default -> greatest(kind, cast, seats);
        };
    }

    private static void note(Result r, int what, int candidate, Ratio[] tallies) {
        Round round = new Round();
        round.what = what;
        round.candidate = candidate;
        round.tallies = tallies.clone();
        r.rounds.add(round);
    }

    private Ratio[] zeros() {
        Ratio[] all = new Ratio[draw.size()];
        Arrays.fill(all, Ratio.ZERO);
        return all;
    }

    /** Those in, the greatest first, of those alike the one ahead. */
    private List<Integer> sorted(Set<Integer> in, Ratio[] tallies) {
        List<Integer> row = new ArrayList<>(draw);
        row.retainAll(in);
        row.sort((a, b) -> tallies[b].compareTo(tallies[a]));
        return row;
    }

    private static int firstOn(Ballot b, Set<Integer> in) {
        return b.order.stream().filter(in::contains).findFirst().orElse(NONE);
    }

    private Ratio[] firsts(List<Ballot> cast, Set<Integer> in) {
        Ratio[] tallies = zeros();
        for (Ballot b : cast) {
            int first = firstOn(b, in);
            if (first != NONE) {
                tallies[first] = tallies[first].plus(Ratio.of(b.papers));
            }
        }
        return tallies;
    }

    private Result greatest(int kind, List<Ballot> cast, int seats) {
        Ratio[] tallies = kind == 0 ? firsts(cast, new HashSet<>(draw)) : zeros();
        for (int c = 0; c < draw.size() && kind != 0; c++) {
            for (Ballot b : cast) {
                int place = b.order.indexOf(c);
                int each = kind == 1 ? b.points[c] : place < 0 ? 0 : draw.size() - 1 - place;
                tallies[c] = tallies[c].plus(Ratio.of((long) b.papers * each));
            }
        }
        Result r = new Result();
        for (int c : sorted(new HashSet<>(draw), tallies).subList(0, seats)) {
            note(r, 1, c, tallies);
            r.seats.add(c);
        }
        return r;
    }

    private Result divisors(List<Ballot> cast, int seats, int times) {
        Ratio[] tallies = firsts(cast, new HashSet<>(draw));
        Result r = new Result();
        for (int s = 0; s < seats; s++) {
            Ratio[] parts = zeros();
            for (int c = 0; c < draw.size(); c++) {
                parts[c] = tallies[c].by(Ratio.of(1 + (long) times * Collections.frequency(r.seats, c)));
            }
            int c = sorted(new HashSet<>(draw), parts).get(0);
            note(r, 1, c, tallies);
            r.seats.add(c);
        }
        return r;
    }

    private Result runOff(List<Ballot> cast, int seats) {
        Set<Integer> in = new HashSet<>(draw);
        Result r = new Result();
        while (!in.isEmpty()) {
            Ratio[] tallies = firsts(cast, in);
            List<Integer> row = sorted(in, tallies);
            int c = row.get(row.size() - 1);
            note(r, in.size() == 1 ? 1 : 2, c, tallies);
            in.remove(c);
            r.seats.add(0, c);
        }
        r.seats = new ArrayList<>(r.seats.subList(0, seats));
        return r;
    }

    private Result ways(List<Ballot> cast, int seats) {
        int n = draw.size();
        long[][] beats = new long[n][n];
        for (int x = 0; x < n; x++) {
            for (int y = 0; y < n; y++) {
                long more = papersAhead(cast, x, y);
                beats[x][y] = more > papersAhead(cast, y, x) ? more : 0;
            }
        }
        List<Integer> left = new ArrayList<>(draw);
        Result r = new Result();
        for (int s = 0; s < seats; s++) {
            int c = left.stream().filter(x -> left.stream().noneMatch(y -> way(beats, y, x) > way(beats, x, y)))
                .findFirst().orElseThrow();
            Ratio[] tallies = zeros();
            tallies[c] = Ratio.of(left.stream().filter(y -> y != c).mapToLong(y -> way(beats, c, y)).min().orElse(0));
            note(r, 1, c, tallies);
            r.seats.add(c);
            left.remove((Integer) c);
        }
        return r;
    }

    private static long papersAhead(List<Ballot> cast, int x, int y) {
        long papers = 0;
        for (Ballot b : cast) {
            int placeOfX = b.order.indexOf(x);
            int placeOfY = b.order.indexOf(y);
            if (x != y && placeOfX >= 0 && (placeOfY < 0 || placeOfX < placeOfY)) {
                papers += b.papers;
            }
        }
        return papers;
    }

    /** The greatest number with which one comes from x to y over steps that are not below it. */
    private static long way(long[][] beats, int x, int y) {
        long best = 0;
        if (x == y) {
            return best;
        }
        for (long[] row : beats) {
            for (long least : row) {
                if (least > best && reaches(beats, x, y, least)) {
                    best = least;
                }
            }
        }
        return best;
    }

    private static boolean reaches(long[][] beats, int x, int y, long least) {
        List<Integer> seen = new ArrayList<>(List.of(x));
        for (int i = 0; i < seen.size(); i++) {
            for (int next = 0; next < beats.length; next++) {
                if (beats[seen.get(i)][next] >= least && !seen.contains(next)) {
                    seen.add(next);
                }
            }
        }
        return seen.contains(y);
    }

    private Result transfer(List<Ballot> cast, int seats) {
        List<Ratio> weights = new ArrayList<>();
        long papers = 0;
        for (Ballot b : cast) {
            weights.add(Ratio.of(b.papers));
            papers += b.papers;
        }
        Ratio quota = Ratio.of(papers / (seats + 1) + 1);
        Set<Integer> in = new HashSet<>(draw);
        Result r = new Result();
        while (r.seats.size() < seats && !in.isEmpty()) {
            Ratio[] tallies = zeros();
            int[] own = new int[cast.size()];
            for (int k = 0; k < own.length; k++) {
                own[k] = firstOn(cast.get(k), in);
                if (own[k] != NONE) {
                    tallies[own[k]] = tallies[own[k]].plus(weights.get(k));
                }
            }
            List<Integer> row = sorted(in, tallies);
            int first = row.get(0);
            int last = row.get(row.size() - 1);
            boolean all = in.size() <= seats - r.seats.size();
            boolean seat = all || tallies[first].compareTo(quota) >= 0;
            note(r, seat ? 1 : 2, seat ? first : last, tallies);
            in.remove(seat ? first : last);
            if (seat) {
                r.seats.add(first);
            }
            if (seat && !all) {
                Ratio factor = tallies[first].less(quota).by(tallies[first]);
                for (int k = 0; k < own.length; k++) {
                    weights.set(k, own[k] == first ? weights.get(k).times(factor) : weights.get(k));
                }
            }
        }
        return r;
    }

    int seat(int i) {
        return isIn(i, latest.seats) ? latest.seats.get(i) : NONE;
    }

    int rounds() {
        return latest.rounds.size();
    }

    int round(int i, int what) {
        if (what < 0 || what > 1) {
            return BAD;
        }
        if (!isIn(i, latest.rounds)) {
            return NONE;
        }
        return what == 0 ? latest.rounds.get(i).what : latest.rounds.get(i).candidate;
    }

    long tally(int i, int candidate, boolean below) {
        if (!isIn(candidate, draw)) {
            return BAD;
        }
        if (!isIn(i, latest.rounds)) {
            return NONE;
        }
        Ratio[] tallies = latest.rounds.get(i).tallies;
        Ratio tally = candidate < tallies.length ? tallies[candidate] : Ratio.ZERO;
        return (below ? tally.lower() : tally.upper()).longValueExact();
    }

    int many(int what) {
        if (what < 0 || what > 4) {
            return BAD;
        }
        return new int[] {draw.size(), ballots.size(), boxes.size(), methods.size(), latest.seats.size()}[what];
    }

    int findings(int f) {
        return f < 1 || f > 6 ? BAD : found[f];
    }

    long digest() {
        List<Integer> values = new ArrayList<>(draw);
        for (Ballot b : ballots) {
            values.addAll(List.of(b.sort, b.papers, b.order.size()));
            values.addAll(b.order);
            for (int c = 0; c < draw.size() && b.sort == 3; c++) {
                values.add(b.points[c]);
            }
        }
        for (Box box : boxes) {
            for (Ballot b : box.places) {
                values.add(b == null ? NONE : ballots.indexOf(b));
            }
        }
        for (Method m : methods) {
            values.addAll(List.of(m.kind, m.begun, m.trials, m.need));
        }
        long h = 17;
        for (int v : values) {
            h = 31 * h + v;
        }
        return h;
    }
}
