import java.math.BigInteger;
import java.util.ArrayDeque;
import java.util.ArrayList;
import java.util.Arrays;
import java.util.Deque;
import java.util.HashSet;
import java.util.List;
import java.util.Map;
import java.util.Set;
import java.util.TreeMap;

/** The document once more, as slow and literal as can be, to be held beside RiskBands by ModelTest. */
public final class Model {
    private static final long NO_SUCH = Long.MIN_VALUE;

    /** What an act can change. */
    private static final class State {
        TreeMap<Integer, int[]> at = new TreeMap<>();
        int least = 1;
        int most = 60;
        int[] costs = {1, 5, 1};
        List<int[]> decisions = new ArrayList<>();

        State copy() {
            State other = new State();
            at.forEach((score, counts) -> other.at.put(score, counts.clone()));
            other.least = least;
            other.most = most;
            other.costs = costs.clone();
            decisions.forEach(one -> other.decisions.add(one.clone()));
            return other;
        }
    }

    private record Row(int score, int good, int bad) {
        int cases() {
            return good + bad;
        }
    }

    /** A fraction; the lower number is above 0. */
    private record Ratio(BigInteger above, BigInteger below) implements Comparable<Ratio> {
        static Ratio of(long above, long below) {
            return new Ratio(BigInteger.valueOf(above), BigInteger.valueOf(below)).lowest();
        }

        Ratio lowest() {
            BigInteger shared = above.gcd(below);
            return new Ratio(above.divide(shared), below.divide(shared));
        }

        Ratio plus(Ratio other) {
            return new Ratio(above.multiply(other.below).add(other.above.multiply(below)),
                    below.multiply(other.below)).lowest();
        }

        Ratio minus(Ratio other) {
            return plus(new Ratio(other.above.negate(), other.below));
        }

        Ratio size() {
            return new Ratio(above.abs(), below);
        }

        @Override
        public int compareTo(Ratio other) {
            return above.multiply(other.below).compareTo(other.above.multiply(below));
        }

        long part(int what) {
            return (what == 0 ? above : below).longValueExact();
        }
    }

    private State now = new State();
    private final Deque<State> undos = new ArrayDeque<>();
    private TreeMap<Integer, Integer> sample = new TreeMap<>();
    private final List<TreeMap<Integer, Integer>> months = new ArrayList<>();
    private final List<Integer> tape = new ArrayList<>();
    private String out = "";
    private int fault;
    private int place = -1;

    // ---- text

    public int feed(int a, int b, int c, int d, int e) {
        if (tape.size() + 20 > 1600) {
            return -1;
        }
        for (int word : new int[] {a, b, c, d, e}) {
            for (int shift = 24; shift >= 0; shift -= 8) {
                tape.add(word >> shift & 255);
            }
        }
        return tape.size();
    }

    public int end(int n) {
        if (n < 0 || n > tape.size()) {
            return -1;
        }
        tape.subList(n, tape.size()).clear();
        return n;
    }

    private record Token(String text, int place) {
    }

    private List<Token> tokens() {
        StringBuilder all = new StringBuilder();
        tape.forEach(value -> all.append((char) (int) value));
        List<Token> tokens = new ArrayList<>();
        int length = all.length();
        var seeker = java.util.regex.Pattern.compile("[a-z]+|[0-9]+|;|[^ \n]").matcher(all);
        while (seeker.find()) {
            tokens.add(new Token(seeker.group(), seeker.start()));
        }
        tokens.add(new Token("", length));
        return tokens;
    }

    private static final class Fault extends Exception {
        private static final long serialVersionUID = 1L;
        final int kind;
        final int place;

        Fault(int kind, Token token) {
            this.kind = kind;
            this.place = token.place;
        }
    }

    private int number(Token token, int low, int high) throws Fault {
        if (!token.text.matches("[0-9]+")) {
            throw new Fault(1, token);
        }
        BigInteger value = new BigInteger(token.text);
        if (value.compareTo(BigInteger.valueOf(low)) < 0 || value.compareTo(BigInteger.valueOf(high)) > 0) {
            throw new Fault(2, token);
        }
        return value.intValue();
    }

    private void word(Token token, String word) throws Fault {
        if (!token.text.equals(word)) {
            throw new Fault(1, token);
        }
    }

    private int parse(State into, boolean onlyAts) throws Fault {
        List<Token> tokens = tokens();
        Set<String> told = new HashSet<>();
        int lines = 0;
        int ats = 0;
        int t = 0;
        while (!tokens.get(t).text.isEmpty()) {
            Token head = tokens.get(t++);
            boolean isSetting = Set.of("least", "most", "cost").contains(head.text);
            if (!head.text.equals("at") && (onlyAts || !isSetting)) {
                throw new Fault(1, head);
            }
            if (isSetting && !told.add(head.text)) {
                throw new Fault(3, head);
            }
            if (head.text.equals("at")) {
                if (++ats > 60) {
                    throw new Fault(4, head);
                }
                int score = number(tokens.get(t++), 0, 999);
                if (into.at.containsKey(score)) {
                    throw new Fault(3, tokens.get(t - 1));
                }
                int[] counts = new int[3];
                word(tokens.get(t++), "good");
                counts[0] = number(tokens.get(t++), 0, 99);
                word(tokens.get(t++), "bad");
                counts[1] = number(tokens.get(t++), 0, 99);
                if (tokens.get(t).text.equals("open")) {
                    t++;
                    counts[2] = number(tokens.get(t++), 0, 99);
                }
                into.at.put(score, counts);
            } else if (head.text.equals("least")) {
                into.least = number(tokens.get(t++), 0, 9999);
            } else if (head.text.equals("most")) {
                into.most = number(tokens.get(t++), 1, 60);
            } else {
                for (int i = 0; i < 3; i++) {
                    into.costs[i] = number(tokens.get(t++), 0, 999);
                }
            }
            word(tokens.get(t++), ";");
            lines++;
        }
        return lines;
    }

    private int read(State into, boolean onlyAts) {
        try {
            int lines = parse(into, onlyAts);
            fault = 0;
            place = -1;
            return lines;
        } catch (Fault found) {
            fault = found.kind;
            place = found.place;
            return -4;
        } finally {
            tape.clear();
        }
    }

    public int pool() {
        State fresh = new State();
        int lines = read(fresh, false);
        if (lines >= 0) {
            now = fresh;
            undos.clear();
            sample = new TreeMap<>();
            months.clear();
        }
        return lines;
    }

    public int sample() {
        State fresh = new State();
        if (read(fresh, true) < 0) {
            return -4;
        }
        sample = new TreeMap<>();
        fresh.at.forEach((score, counts) -> sample.put(score, counts[0] + counts[1]));
        return total(sample);
    }

    public int fault(int what) {
        return what == 0 ? fault : what == 1 ? place : -1;
    }

    // ---- rows and bands

    private static int total(Map<Integer, Integer> cases) {
        return cases.values().stream().mapToInt(Integer::intValue).sum();
    }

    private List<Row> rows() {
        List<Row> rows = new ArrayList<>();
        now.at.forEach((score, counts) -> {
            if (counts[0] + counts[1] > 0) {
                rows.add(new Row(score, counts[0], counts[1]));
            }
        });
        return rows;
    }

    private static int goods(List<Row> rows) {
        return rows.stream().mapToInt(Row::good).sum();
    }

    private static int bads(List<Row> rows) {
        return rows.stream().mapToInt(Row::bad).sum();
    }

    private static int cases(List<Row> rows) {
        return goods(rows) + bads(rows);
    }

    private static Ratio rateOf(List<Row> rows) {
        return Ratio.of(bads(rows), cases(rows));
    }

    private static void join(List<List<Row>> bands, int k) {
        List<Row> both = new ArrayList<>(bands.get(k));
        both.addAll(bands.remove(k + 1));
        bands.set(k, both);
    }

    private static List<List<Row>> pure(List<Row> rows) {
        List<List<Row>> bands = new ArrayList<>();
        rows.forEach(row -> bands.add(List.of(row)));
        boolean again = true;
        while (again) {
            again = false;
            for (int k = 0; k + 1 < bands.size() && !again; k++) {
                if (rateOf(bands.get(k + 1)).compareTo(rateOf(bands.get(k))) >= 0) {
                    join(bands, k);
                    again = true;
                }
            }
        }
        return bands;
    }

    private static Ratio exactError(List<Row> rows) {
        return Ratio.of((long) goods(rows) * bads(rows), cases(rows));
    }

    private static Ratio growth(List<List<Row>> bands, int k) {
        List<Row> both = new ArrayList<>(bands.get(k));
        both.addAll(bands.get(k + 1));
        return exactError(both).minus(exactError(bands.get(k))).minus(exactError(bands.get(k + 1)));
    }

    private List<List<Row>> bands() {
        List<List<Row>> bands = pure(rows());
        while (bands.size() >= 2) {
            int few = 0;
            for (int k = 0; k < bands.size(); k++) {
                if (cases(bands.get(k)) < cases(bands.get(few))) {
                    few = k;
                }
            }
            if (cases(bands.get(few)) >= now.least) {
                break;
            }
            if (few == 0) {
                join(bands, 0);
            } else if (few == bands.size() - 1) {
                join(bands, few - 1);
            } else {
                Ratio here = rateOf(bands.get(few));
                Ratio down = rateOf(bands.get(few - 1)).minus(here).size();
                Ratio up = rateOf(bands.get(few + 1)).minus(here).size();
                join(bands, down.compareTo(up) <= 0 ? few - 1 : few);
            }
        }
        while (bands.size() > now.most) {
            int cheap = 0;
            for (int k = 1; k + 1 < bands.size(); k++) {
                if (growth(bands, k).compareTo(growth(bands, cheap)) < 0) {
                    cheap = k;
                }
            }
            join(bands, cheap);
        }
        return bands;
    }

    private static int place(List<List<Row>> bands, int score) {
        int found = 0;
        for (int k = 0; k < bands.size(); k++) {
            if (bands.get(k).get(0).score <= score) {
                found = k;
            }
        }
        return found;
    }

    private int[] spread(Map<Integer, Integer> some) {
        List<List<Row>> bands = bands();
        int[] spread = new int[bands.size()];
        if (spread.length > 0) {
            some.forEach((score, many) -> spread[place(bands, score)] += many);
        }
        return spread;
    }

    private int opens() {
        return now.at.values().stream().mapToInt(counts -> counts[2]).sum();
    }

    public int count(int what) {
        List<Row> rows = rows();
        return switch (what) {
            case 0 -> rows.size();
            case 1 -> goods(rows);
            case 2 -> bads(rows);
            case 3 -> bands().size();
            case 4 -> now.least;
            case 5 -> now.most;
            case 6, 7, 8 -> now.costs[what - 6];
            case 9 -> now.decisions.size();
            case 10 -> total(sample);
            case 11 -> undos.size();
            case 12 -> tape.size();
            case 13 -> pure(rows).size();
            case 14 -> opens();
            case 15 -> months.size();
            case 16 -> out.length();
            case 17 -> rows.isEmpty() ? -1 : rows.get(rows.size() - 1).score;
            default -> -1;
        };
    }

    public int row(int i, int what) {
        List<Row> rows = rows();
        if (i < 0 || i >= rows.size()) {
            return -2;
        }
        return switch (what) {
            case 0 -> rows.get(i).score;
            case 1 -> rows.get(i).good;
            case 2 -> rows.get(i).bad;
            case 3 -> place(bands(), rows.get(i).score);
            default -> -2;
        };
    }

    public int band(int k, int what) {
        List<List<Row>> bands = bands();
        if (k < 0 || k >= bands.size()) {
            return -2;
        }
        List<Row> band = bands.get(k);
        return switch (what) {
            case 0 -> band.get(0).score;
            case 1 -> band.get(band.size() - 1).score;
            case 2 -> goods(band);
            case 3 -> bads(band);
            case 4, 5 -> (int) rateOf(band).part(what - 4);
            case 6 -> band.size();
            case 7 -> spread(sample)[k];
            default -> -2;
        };
    }

    public int bandOf(int score) {
        if (score < 0 || score > 999) {
            return -2;
        }
        return rows().isEmpty() ? -1 : place(bands(), score);
    }

    public long rate(int k, int what) {
        List<List<Row>> bands = bands();
        if (k < 0 || k >= bands.size()) {
            return NO_SUCH;
        }
        double rate = (double) bads(bands.get(k)) / (double) cases(bands.get(k));
        return switch (what) {
            case 0 -> Double.doubleToLongBits(rate);
            case 1 -> Float.floatToIntBits((float) rate);
            case 2 -> Double.doubleToLongBits(1000.0 * rate % 1.0);
            case 3 -> (long) (1000.0 * rate);
            default -> NO_SUCH;
        };
    }

    private static double error(List<Row> rows) {
        return (double) ((long) goods(rows) * bads(rows)) / (double) cases(rows);
    }

    public long error() {
        double sum = 0.0;
        for (List<Row> band : bands()) {
            sum += error(band);
        }
        return Double.doubleToLongBits(sum);
    }

    public long joint(int k) {
        List<List<Row>> bands = bands();
        if (k < 0 || k >= bands.size() - 1) {
            return NO_SUCH;
        }
        long n = cases(bands.get(k));
        long m = cases(bands.get(k + 1));
        long apart = bads(bands.get(k)) * m - bads(bands.get(k + 1)) * n;
        return Double.doubleToLongBits((double) (apart * apart) / (double) (n * m * (n + m)));
    }

    // ---- order, distance, hull

    public long auc(int what) {
        List<Row> rows = rows();
        if (goods(rows) == 0 || bads(rows) == 0 || what < 0 || what > 1) {
            return NO_SUCH;
        }
        long halves = 0;
        for (Row one : rows) {
            for (Row other : rows) {
                int worth = one.score > other.score ? 2 : one.score == other.score ? 1 : 0;
                halves += (long) worth * one.good * other.bad;
            }
        }
        return Ratio.of(halves, 2L * goods(rows) * bads(rows)).part(what);
    }

    public long ks(int what) {
        List<Row> rows = rows();
        if (goods(rows) == 0 || bads(rows) == 0 || what < 0 || what > 2) {
            return NO_SUCH;
        }
        Ratio most = null;
        int score = 0;
        for (int i = 0; i < rows.size(); i++) {
            List<Row> upTo = rows.subList(0, i + 1);
            Ratio apart = Ratio.of(goods(upTo), goods(rows)).minus(Ratio.of(bads(upTo), bads(rows))).size();
            if (most == null || apart.compareTo(most) > 0) {
                most = apart;
                score = rows.get(i).score;
            }
        }
        return what == 2 ? score : most.lowest().part(what);
    }

    private List<int[]> corners() {
        List<int[]> corners = new ArrayList<>();
        int good = 0;
        int bad = 0;
        for (List<Row> band : pure(rows())) {
            if (corners.isEmpty()) {
                corners.add(new int[] {0, 0});
            }
            good += goods(band);
            bad += bads(band);
            corners.add(new int[] {good, bad});
        }
        return corners;
    }

    public int hull(int i, int what) {
        if (i < 0 || what < 0 || what > 1) {
            return -2;
        }
        List<int[]> corners = corners();
        return i >= corners.size() ? -1 : corners.get(i)[what];
    }

    public long mixed(int g, int what) {
        List<Row> rows = rows();
        if (rows.isEmpty() || g < 0 || g > goods(rows) || what < 0 || what > 1) {
            return NO_SUCH;
        }
        List<int[]> corners = corners();
        Ratio least = null;
        for (int i = corners.size() - 1; i > 0; i--) {
            int fromGood = goods(rows) - corners.get(i)[0];
            int fromBad = bads(rows) - corners.get(i)[1];
            int toGood = goods(rows) - corners.get(i - 1)[0];
            int toBad = bads(rows) - corners.get(i - 1)[1];
            if (g < fromGood || g > toGood) {
                continue;
            }
            Ratio here = Ratio.of(fromBad, 1);
            if (toGood > fromGood) {
                here = here.plus(Ratio.of((long) (toBad - fromBad) * (g - fromGood), toGood - fromGood));
            }
            if (least == null || here.compareTo(least) < 0) {
                least = here;
            }
        }
        return least.lowest().part(what);
    }

    // ---- cuts

    private static int costOf(List<Row> rows, int c, int d, int[] costs) {
        int sum = 0;
        for (Row row : rows) {
            if (row.score < c) {
                sum += costs[0] * row.good;
            } else if (row.score < d) {
                sum += costs[2] * row.cases();
            } else {
                sum += costs[1] * row.bad;
            }
        }
        return sum;
    }

    private static int bestCut(List<Row> rows, int[] costs) {
        int best = 0;
        int least = costOf(rows, 0, 0, costs);
        for (int c = 1; c <= 1000; c++) {
            int here = costOf(rows, c, c, costs);
            if (here < least) {
                best = c;
                least = here;
            }
        }
        return best;
    }

    /** All twos of CUTS, by the cost up to each SCORE of declining, referring, accepting. */
    private int[] bestTwo() {
        int[][] upTo = new int[3][1001];
        for (int s = 0; s < 1000; s++) {
            int[] counts = now.at.getOrDefault(s, new int[3]);
            upTo[0][s + 1] = upTo[0][s] + now.costs[0] * counts[0];
            upTo[1][s + 1] = upTo[1][s] + now.costs[2] * (counts[0] + counts[1]);
            upTo[2][s + 1] = upTo[2][s] + now.costs[1] * counts[1];
        }
        int[] best = {0, 0, Integer.MAX_VALUE};
        for (int c = 0; c <= 1000; c++) {
            for (int d = c; d <= 1000; d++) {
                int here = upTo[0][c] + upTo[1][d] - upTo[1][c] + upTo[2][1000] - upTo[2][d];
                if (here < best[2]) {
                    best = new int[] {c, d, here};
                }
            }
        }
        return best;
    }

    public int cost(int c) {
        return c < 0 || c > 1000 ? -2 : costOf(rows(), c, c, now.costs);
    }

    public int cut(int what) {
        if (what < 0 || what > 1) {
            return -2;
        }
        int c = bestCut(rows(), now.costs);
        return what == 0 ? c : cost(c);
    }

    public int refer(int c, int d) {
        return c < 0 || c > d || d > 1000 ? -2 : costOf(rows(), c, d, now.costs);
    }

    public int two(int what) {
        return what < 0 || what > 2 ? -2 : bestTwo()[what];
    }

    public int would(int a, int b) {
        return a < 0 || a > 999 || b < 0 || b > 999 ? -2 : bestCut(rows(), new int[] {a, b, 0});
    }

    private static List<Row> from(List<Row> rows, int c) {
        return rows.stream().filter(row -> row.score >= c).toList();
    }

    public int limit(int m) {
        if (m < 0 || m > 1000) {
            return -2;
        }
        List<Row> rows = rows();
        for (int c = 0; c <= 1000; c++) {
            List<Row> accepted = from(rows, c);
            if (!accepted.isEmpty() && bads(accepted) * 1000 <= m * cases(accepted)) {
                return c;
            }
        }
        return -1;
    }

    public int accepts(int m) {
        if (m < 0 || m > 1000) {
            return -2;
        }
        List<Row> rows = rows();
        int found = -1;
        for (int c = 0; c <= 1000 && !rows.isEmpty(); c++) {
            if (cases(from(rows, c)) * 1000 >= m * cases(rows)) {
                found = c;
            }
        }
        return found;
    }

    public int capture(int m) {
        if (m < 0 || m > 1000) {
            return -2;
        }
        List<Row> rows = rows();
        int n = 0;
        while (cases(rows.subList(0, n)) * 1000 < m * cases(rows)) {
            n++;
        }
        return bads(rows.subList(0, n));
    }

    // ---- sample, months

    private Ratio bandOff(Map<Integer, Integer> some, int k) {
        return Ratio.of(cases(bands().get(k)), cases(rows()))
                .minus(Ratio.of(spread(some)[k], total(some))).size();
    }

    private Ratio driftBy(Map<Integer, Integer> some) {
        Ratio sum = Ratio.of(0, 1);
        for (int k = 0; k < bands().size(); k++) {
            sum = sum.plus(bandOff(some, k));
        }
        return sum.lowest();
    }

    public long drift(int what) {
        if (rows().isEmpty() || total(sample) == 0 || what < 0 || what > 2) {
            return NO_SUCH;
        }
        if (what < 2) {
            return driftBy(sample).part(what);
        }
        int most = 0;
        for (int k = 1; k < bands().size(); k++) {
            if (bandOff(sample, k).compareTo(bandOff(sample, most)) > 0) {
                most = k;
            }
        }
        return most;
    }

    public long chi() {
        List<Row> rows = rows();
        if (rows.isEmpty() || total(sample) == 0) {
            return NO_SUCH;
        }
        double sum = 0.0;
        int[] spread = spread(sample);
        List<List<Row>> bands = bands();
        for (int k = 0; k < bands.size(); k++) {
            double o = spread[k];
            double e = (double) ((long) cases(bands.get(k)) * total(sample)) / (double) cases(rows);
            sum += (o - e) * (o - e) / e;
        }
        return Double.doubleToLongBits(sum);
    }

    public long mean(int what) {
        if (what < 0 || what > 3) {
            return NO_SUCH;
        }
        long sum = 0;
        long many = 0;
        if (what == 3) {
            for (Map.Entry<Integer, Integer> entry : sample.entrySet()) {
                sum += (long) entry.getKey() * entry.getValue();
                many += entry.getValue();
            }
        } else {
            for (Row row : rows()) {
                int here = what == 0 ? row.good : what == 1 ? row.bad : row.cases();
                sum += (long) row.score * here;
                many += here;
            }
        }
        return many == 0 ? NO_SUCH : Double.doubleToLongBits((double) sum / (double) many);
    }

    private List<int[]> allCases(List<Row> rows) {
        List<int[]> all = new ArrayList<>();
        for (Row row : rows) {
            for (int i = 0; i < row.cases(); i++) {
                all.add(new int[] {row.score, i < row.good ? 0 : 1});
            }
        }
        return all;
    }

    public int median() {
        List<int[]> all = allCases(rows());
        return all.isEmpty() ? -1 : all.get(all.size() / 2)[0];
    }

    public long resample(long seed, int what) {
        List<int[]> all = allCases(rows());
        if (all.isEmpty() || what < 0 || what > 2) {
            return NO_SUCH;
        }
        TreeMap<Integer, int[]> tally = new TreeMap<>();
        for (int i = 0; i < all.size(); i++) {
            seed = seed * 6364136223846793005L + 1442695040888963407L;
            int[] one = all.get((int) ((seed >>> 33) % all.size()));
            tally.computeIfAbsent(one[0], score -> new int[2])[one[1]]++;
        }
        List<Row> drawn = new ArrayList<>();
        tally.forEach((score, counts) -> drawn.add(new Row(score, counts[0], counts[1])));
        return what == 0 ? bads(drawn) : what == 1 ? bestCut(drawn, now.costs) : pure(drawn).size();
    }

    public int inversions() {
        List<Row> rows = rows();
        int twos = 0;
        for (Row low : rows) {
            for (Row high : rows) {
                if (low.score < high.score && rateOf(List.of(high)).compareTo(rateOf(List.of(low))) > 0) {
                    twos++;
                }
            }
        }
        return twos;
    }

    public int between(int c, int d, int what) {
        if (c < 0 || c > d || d > 1000 || what < 0 || what > 2) {
            return -2;
        }
        List<Row> some = rows().stream().filter(row -> row.score >= c && row.score < d).toList();
        return what == 0 ? goods(some) : what == 1 ? bads(some) : some.size();
    }

    // ---- split

    private double[][] splitTable(List<Row> rows, int[][] begins) {
        int n = rows.size();
        double[][] d = new double[n + 1][n + 1];
        for (int k = 1; k <= n; k++) {
            for (int j = k; j <= n; j++) {
                if (k == 1) {
                    d[j][1] = error(rows.subList(0, j));
                    continue;
                }
                d[j][k] = Double.POSITIVE_INFINITY;
                for (int s = k - 1; s <= j - 1; s++) {
                    double here = d[s][k - 1] + error(rows.subList(s, j));
                    if (here < d[j][k]) {
                        d[j][k] = here;
                        begins[j][k] = s;
                    }
                }
            }
        }
        return d;
    }

    public long split(int k) {
        List<Row> rows = rows();
        if (k < 1 || k > rows.size()) {
            return NO_SUCH;
        }
        double[][] d = splitTable(rows, new int[rows.size() + 1][rows.size() + 1]);
        return Double.doubleToLongBits(d[rows.size()][k]);
    }

    public int splitAt(int k, int i) {
        List<Row> rows = rows();
        if (k < 1 || k > rows.size() || i < 0 || i >= k) {
            return -2;
        }
        int[][] begins = new int[rows.size() + 1][rows.size() + 1];
        splitTable(rows, begins);
        int[] starts = new int[k];
        int j = rows.size();
        for (int run = k; run >= 1; run--) {
            j = run == 1 ? 0 : begins[j][run];
            starts[run - 1] = j;
        }
        return rows.get(starts[i]).score;
    }

    public int month() {
        if (months.size() >= 12 || total(sample) == 0) {
            return -5;
        }
        months.add(new TreeMap<>(sample));
        return months.size() - 1;
    }

    public long off(int month, int what) {
        if (month < 0 || month >= months.size() || what < 0 || what > 1 || rows().isEmpty()) {
            return NO_SUCH;
        }
        return driftBy(months.get(month)).part(what);
    }

    public int share(int month, int band) {
        if (month < 0 || month >= months.size() || band < 0 || band >= bands().size()) {
            return -2;
        }
        return spread(months.get(month))[band];
    }

    public int alarm(int m) {
        if (m < 0 || m > 2000) {
            return -2;
        }
        for (int i = 0; i < months.size() && !rows().isEmpty(); i++) {
            if (driftBy(months.get(i)).compareTo(Ratio.of(m, 1000)) > 0) {
                return i;
            }
        }
        return -1;
    }

    public int rises(int band) {
        if (band < 0 || band >= bands().size()) {
            return -2;
        }
        List<Ratio> shares = new ArrayList<>();
        for (TreeMap<Integer, Integer> month : months) {
            shares.add(Ratio.of(spread(month)[band], total(month)));
        }
        int most = 0;
        for (int from = 0; from < shares.size(); from++) {
            int to = from;
            while (to + 1 < shares.size() && shares.get(to + 1).compareTo(shares.get(to)) > 0) {
                to++;
            }
            most = Math.max(most, to - from);
        }
        return most;
    }

    public int tell() {
        StringBuilder text = new StringBuilder();
        for (List<Row> band : bands()) {
            text.append(String.format("%d-%d %d %d;", band.get(0).score, band.get(band.size() - 1).score,
                    goods(band), bads(band)));
        }
        out = text.toString();
        return out.length();
    }

    public int octet(int i) {
        return i < 0 || i >= out.length() ? -1 : out.charAt(i);
    }

    // ---- open ones, decisions, acts

    public int open(int score) {
        return score < 0 || score > 999 ? -2 : now.at.getOrDefault(score, new int[3])[2];
    }

    private static boolean fits(State state) {
        int held = 0;
        for (int[] counts : state.at.values()) {
            held += counts[0] + counts[1] > 0 ? 1 : 0;
            if (Math.min(counts[0], counts[1]) < 0 || Math.max(counts[0], counts[1]) > 99) {
                return false;
            }
        }
        return held <= 60;
    }

    /** The next state takes the place of this one, which undo() brings back. */
    private void act(State next) {
        undos.addLast(now);
        if (undos.size() > 10) {
            undos.removeFirst();
        }
        now = next;
    }

    private static void add(State state, int score, int good, int bad) {
        int[] counts = state.at.computeIfAbsent(score, some -> new int[3]);
        counts[0] += good;
        counts[1] += bad;
    }

    public int infer(int m) {
        if (m < 0 || m > 1000) {
            return -2;
        }
        int all = opens();
        if (all == 0) {
            return 0;
        }
        if (rows().isEmpty()) {
            return -5;
        }
        State next = now.copy();
        List<List<Row>> bands = bands();
        next.at.forEach((score, counts) -> {
            List<Row> band = bands.get(place(bands, score));
            long bad = (long) counts[2] * m * bads(band) / (100L * cases(band));
            int asBad = (int) Math.min(bad, counts[2]);
            counts[0] += counts[2] - asBad;
            counts[1] += asBad;
            counts[2] = 0;
        });
        if (!fits(next)) {
            return -5;
        }
        act(next);
        return all;
    }

    public int decide(int score, int choice) {
        if (score < 0 || score > 999 || choice < 0 || choice > 2) {
            return -2;
        }
        if (now.decisions.size() >= 40) {
            return -5;
        }
        int[] two = bestTwo();
        int advice = score < two[0] ? 0 : score < two[1] ? 1 : 2;
        State next = now.copy();
        next.decisions.add(new int[] {score, choice, advice, -1, 0});
        act(next);
        return now.decisions.size() - 1;
    }

    public int decision(int i, int what) {
        return i < 0 || i >= now.decisions.size() || what < 0 || what > 4 ? -2 : now.decisions.get(i)[what];
    }

    public int outcome(int i, int bad) {
        if (i < 0 || i >= now.decisions.size() || bad < 0 || bad > 1) {
            return -2;
        }
        if (now.decisions.get(i)[1] == 0 || now.decisions.get(i)[3] != -1) {
            return -5;
        }
        State next = now.copy();
        next.decisions.get(i)[3] = bad;
        act(next);
        return 0;
    }

    public int overrides(int what) {
        if (what < 0 || what > 3) {
            return -2;
        }
        return (int) now.decisions.stream().filter(one -> switch (what) {
            case 0 -> one[1] > one[2];
            case 1 -> one[1] < one[2];
            case 2 -> one[1] > one[2] && one[3] == 1;
            default -> one[3] != -1 && one[4] == 0;
        }).count();
    }

    public int learn() {
        State next = now.copy();
        int learnt = 0;
        for (int[] one : next.decisions) {
            if (one[3] != -1 && one[4] == 0) {
                add(next, one[0], 1 - one[3], one[3]);
                one[4] = 1;
                learnt++;
            }
        }
        if (learnt == 0) {
            return 0;
        }
        if (!fits(next)) {
            return -5;
        }
        act(next);
        return learnt;
    }

    public int adds(int score, int good, int bad) {
        boolean known = score >= 0 && score <= 999 && good >= -99 && good <= 99 && bad >= -99 && bad <= 99;
        if (!known) {
            return -2;
        }
        State next = now.copy();
        add(next, score, good, bad);
        if (!fits(next)) {
            return -5;
        }
        if (good == 0 && bad == 0) {
            return 0;
        }
        act(next);
        return 1;
    }

    public int sets(int what, int v) {
        if (what < 0 || what > 1 || v < what || v > (what == 0 ? 9999 : 60)) {
            return -2;
        }
        State next = now.copy();
        int before = what == 0 ? now.least : now.most;
        if (what == 0) {
            next.least = v;
        } else {
            next.most = v;
        }
        if (v != before) {
            act(next);
        }
        return before;
    }

    public int costs(int good, int bad, int refer) {
        int[] costs = {good, bad, refer};
        for (int one : costs) {
            if (one < 0 || one > 999) {
                return -2;
            }
        }
        if (Arrays.equals(costs, now.costs)) {
            return 0;
        }
        State next = now.copy();
        next.costs = costs;
        act(next);
        return 1;
    }

    public int undo() {
        if (undos.isEmpty()) {
            return -1;
        }
        now = undos.removeLast();
        return undos.size();
    }
}
