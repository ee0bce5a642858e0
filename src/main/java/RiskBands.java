import java.util.Arrays;

/** Scored cases, good and bad: bands of falling risk, cuts, drift, decisions. See ../shared/DOC.md. */
public final class RiskBands {
    public static final int NONE = -1;
    public static final long NO_SUCH = Long.MIN_VALUE;

    private static final int MISSING = -2;
    private static final int FAULTY = -4;
    private static final int REFUSED = -5;

    private static final int SCORES = 1000;
    private static final int MOST_ROWS = 60;
    private static final int MOST_COUNT = 99;
    private static final int MOST_LEAST = 9999;
    private static final int MOST_COST = 999;
    private static final int MOST_MONTHS = 12;
    private static final int TAPE_ROOM = 1600;
    // A BAND is told in 18 bytes at most: 3 - 3, blank, 4, blank, 4, ;
    private static final int OUT_ROOM = MOST_ROWS * 18;

    private static final int ACT_ADDS = 1;
    private static final int ACT_SETS = 2;
    private static final int ACT_COSTS = 3;
    private static final int ACT_DECIDE = 4;
    private static final int ACT_OUTCOME = 5;
    private static final int ACT_LEARN = 6;
    private static final int ACT_INFER = 7;

    private final Bytes tape;
    private final Bytes out;
    private final Reader reader;
    private final Pool stock;
    private final Rows rows;
    private final Ladder pure;
    private final Ladder bands;
    private final TwoCuts best;
    private final Rows drawn;
    private final Ladder drawnPure;
    private final Inferred inferred;
    private final Decisions decisions;
    private final Acts acts;
    private final Sample empty;
    private final Sample[] months;
    private final int[] spread;
    private Splits splits;
    private Sample latest;
    private int kept;
    private boolean settled;

    public RiskBands() {
        tape = new Bytes(TAPE_ROOM);
        out = new Bytes(OUT_ROOM);
        reader = new Reader();
        stock = new Pool();
        rows = new Rows();
        pure = new Ladder();
        bands = new Ladder();
        best = new TwoCuts();
        drawn = new Rows();
        drawnPure = new Ladder();
        inferred = new Inferred();
        decisions = new Decisions();
        acts = new Acts();
        empty = new Sample(reader);
        months = new Sample[MOST_MONTHS];
        for (int i = 0; i < MOST_MONTHS; i++) {
            months[i] = empty;
        }
        spread = new int[MOST_ROWS];
        splits = null;
        latest = empty;
        kept = 0;
        settled = false;
    }

    // ---- the TAPE and what it tells

    public int feed(int a, int b, int c, int d, int e) {
        if (!tape.takes(20)) {
            return NONE;
        }
        tape.putWord(a);
        tape.putWord(b);
        tape.putWord(c);
        tape.putWord(d);
        tape.putWord(e);
        return tape.size;
    }

    public int end(int n) {
        if (n < 0 || n > tape.size) {
            return NONE;
        }
        tape.size = n;
        return n;
    }

    public int pool() {
        reader.readAll(tape, false);
        tape.size = 0;
        if (reader.faultKind != 0) {
            return FAULTY;
        }
        stock.take(reader);
        decisions.size = 0;
        acts.size = 0;
        latest = empty;
        kept = 0;
        settled = false;
        return reader.lines;
    }

    public int sample() {
        reader.readAll(tape, true);
        tape.size = 0;
        if (reader.faultKind != 0) {
            return FAULTY;
        }
        latest = new Sample(reader);
        return latest.total;
    }

    public int fault(int what) {
        if (what == 0) {
            return reader.faultKind;
        }
        return what == 1 ? reader.faultPlace : NONE;
    }

    // ---- ROWS and BANDS

    public int count(int what) {
        settle();
        switch (what) {
            case 0: return rows.size;
            case 1: return rows.goods();
            case 2: return rows.bads();
            case 3: return bands.size;
            case 4: return stock.least;
            case 5: return stock.most;
            case 6: return stock.goodCost;
            case 7: return stock.badCost;
            case 8: return stock.referCost;
            case 9: return decisions.size;
            case 10: return latest.total;
            case 11: return acts.size;
            case 12: return tape.size;
            case 13: return pure.size;
            case 14: return stock.opens();
            case 15: return kept;
            case 16: return out.size;
            case 17: return rows.greatest();
            default: return NONE;
        }
    }

    public int row(int i, int what) {
        settle();
        if (i < 0 || i >= rows.size) {
            return MISSING;
        }
        switch (what) {
            case 0: return rows.score[i];
            case 1: return rows.good[i];
            case 2: return rows.bad[i];
            case 3: return bands.place(rows.score[i]);
            default: return MISSING;
        }
    }

    public int band(int k, int what) {
        settle();
        if (!bands.has(k)) {
            return MISSING;
        }
        switch (what) {
            case 0: return bands.least[k];
            case 1: return bands.greatest[k];
            case 2: return bands.good[k];
            case 3: return bands.bad[k];
            case 4: return (int) Numbers.lowest(bands.bad[k], bands.cases(k), 0);
            case 5: return (int) Numbers.lowest(bands.bad[k], bands.cases(k), 1);
            case 6: return bands.rowsIn[k];
            case 7: return casesIn(latest, k);
            default: return MISSING;
        }
    }

    public int bandOf(int score) {
        if (!isScore(score)) {
            return MISSING;
        }
        settle();
        return bands.place(score);
    }

    public long rate(int k, int what) {
        settle();
        if (!bands.has(k)) {
            return NO_SUCH;
        }
        double whole = Numbers.quotient(bands.bad[k], bands.cases(k));
        double thousands = 1000.0 * whole;
        switch (what) {
            case 0: return Numbers.doubleBits(whole);
            case 1: return Numbers.floatBits((float) whole);
            case 2: return Numbers.doubleBits(thousands - (double) (long) thousands);
            case 3: return (long) thousands;
            default: return NO_SUCH;
        }
    }

    public long error() {
        settle();
        double sum = 0.0;
        for (int k = 0; k < bands.size; k++) {
            sum = sum + Numbers.quotient((long) bands.good[k] * bands.bad[k], bands.cases(k));
        }
        return Numbers.doubleBits(sum);
    }

    public long joint(int k) {
        settle();
        if (!bands.has(k) || k >= bands.size - 1) {
            return NO_SUCH;
        }
        return Numbers.doubleBits(Numbers.quotient(bands.growthAbove(k), bands.growthBelow(k)));
    }

    // ---- pairs in order, the greatest distance, the HULL

    public long auc(int what) {
        settle();
        if (!rows.hasBoth() || what < 0 || what > 1) {
            return NO_SUCH;
        }
        return Numbers.lowest(rows.halvesInOrder(), 2L * rows.goods() * rows.bads(), what);
    }

    public long ks(int what) {
        settle();
        if (!rows.hasBoth() || what < 0 || what > 2) {
            return NO_SUCH;
        }
        int i = rows.farthest();
        if (what == 2) {
            return rows.score[i];
        }
        return Numbers.lowest(rows.apart(i), (long) rows.goods() * rows.bads(), what);
    }

    public int hull(int i, int what) {
        if (i < 0 || what < 0 || what > 1) {
            return MISSING;
        }
        settle();
        if (pure.size == 0 || i > pure.size) {
            return NONE;
        }
        return what == 0 ? pure.goodBelow(i) : pure.badBelow(i);
    }

    public long mixed(int g, int what) {
        settle();
        if (pure.size == 0 || g < 0 || g > rows.goods() || what < 0 || what > 1) {
            return NO_SUCH;
        }
        return pure.badWith(g, what);
    }

    // ---- CUTS

    public int cost(int c) {
        if (!isCut(c)) {
            return MISSING;
        }
        settle();
        return rows.costBehind(rows.below(c), stock.goodCost, stock.badCost);
    }

    public int cut(int what) {
        if (what < 0 || what > 1) {
            return MISSING;
        }
        settle();
        int i = rows.cheapest(stock.goodCost, stock.badCost);
        return what == 0 ? rows.cutBehind(i) : rows.costBehind(i, stock.goodCost, stock.badCost);
    }

    public int refer(int c, int d) {
        if (!isCut(c) || !isCut(d) || c > d) {
            return MISSING;
        }
        settle();
        int i = rows.below(c);
        int j = rows.below(d);
        int referred = rows.casesAhead(j) - rows.casesAhead(i);
        return stock.goodCost * rows.goodAhead[i] + stock.referCost * referred
                + stock.badCost * (rows.bads() - rows.badAhead[j]);
    }

    public int two(int what) {
        if (what < 0 || what > 2) {
            return MISSING;
        }
        settle();
        best.seek(rows, stock);
        if (what == 2) {
            return best.together;
        }
        return what == 0 ? best.lower : best.upper;
    }

    public int would(int a, int b) {
        if (!isCost(a) || !isCost(b)) {
            return MISSING;
        }
        settle();
        return rows.cutBehind(rows.cheapest(a, b));
    }

    public int limit(int m) {
        if (m < 0 || m > 1000) {
            return MISSING;
        }
        settle();
        return rows.leastCutOf(m);
    }

    public int accepts(int m) {
        if (m < 0 || m > 1000) {
            return MISSING;
        }
        settle();
        return rows.greatestCutOf(m);
    }

    public int capture(int m) {
        if (m < 0 || m > 1000) {
            return MISSING;
        }
        settle();
        return rows.badOfFew(m);
    }

    // ---- the SAMPLE and DRIFT

    public long drift(int what) {
        settle();
        if (what < 0 || what > 2 || rows.size == 0 || latest.total == 0) {
            return NO_SUCH;
        }
        if (what == 2) {
            return farthestBand(latest);
        }
        return Numbers.lowest(driftAbove(latest), driftBelow(latest), what);
    }

    public long chi() {
        settle();
        if (rows.size == 0 || latest.total == 0) {
            return NO_SUCH;
        }
        spreadOf(latest);
        double sum = 0.0;
        for (int k = 0; k < bands.size; k++) {
            double o = (double) spread[k];
            double e = Numbers.quotient((long) bands.cases(k) * latest.total, rows.cases());
            if (e > 0.0) {
                sum = sum + (o - e) * (o - e) / e;
            }
        }
        return Numbers.doubleBits(sum);
    }

    public long mean(int what) {
        settle();
        switch (what) {
            case 0: return meanBits(rows.scoresTogether(1, 0), rows.goods());
            case 1: return meanBits(rows.scoresTogether(0, 1), rows.bads());
            case 2: return meanBits(rows.scoresTogether(1, 1), rows.cases());
            case 3: return meanBits(latest.scoresTogether(), latest.total);
            default: return NO_SUCH;
        }
    }

    public int median() {
        settle();
        if (rows.size == 0) {
            return NONE;
        }
        return rows.score[rows.holder(rows.cases() / 2)];
    }

    public long resample(long seed, int what) {
        settle();
        if (what < 0 || what > 2 || rows.size == 0) {
            return NO_SUCH;
        }
        drawn.drawFrom(rows, seed);
        if (what == 0) {
            return drawn.bads();
        }
        if (what == 1) {
            return drawn.cutBehind(drawn.cheapest(stock.goodCost, stock.badCost));
        }
        drawnPure.fillPure(drawn);
        return drawnPure.size;
    }

    public int inversions() {
        settle();
        int twos = 0;
        for (int j = 1; j < rows.size; j++) {
            for (int i = 0; i < j; i++) {
                if (rows.isRiskier(j, i)) {
                    twos++;
                }
            }
        }
        return twos;
    }

    public int between(int c, int d, int what) {
        if (!isCut(c) || !isCut(d) || c > d) {
            return MISSING;
        }
        settle();
        int i = rows.below(c);
        int j = rows.below(d);
        switch (what) {
            case 0: return rows.goodAhead[j] - rows.goodAhead[i];
            case 1: return rows.badAhead[j] - rows.badAhead[i];
            case 2: return j - i;
            default: return MISSING;
        }
    }

    // ---- SPLIT

    public long split(int k) {
        settle();
        if (k < 1 || k > rows.size) {
            return NO_SUCH;
        }
        return Numbers.doubleBits(splitsUpTo(k).whole[k]);
    }

    public int splitAt(int k, int i) {
        settle();
        if (k < 1 || k > rows.size || i < 0 || i >= k) {
            return MISSING;
        }
        return rows.score[splitsUpTo(k).firstRow(k, i, rows.size)];
    }

    // ---- MONTHS

    public int month() {
        if (kept >= MOST_MONTHS || latest.total == 0) {
            return REFUSED;
        }
        months[kept] = latest;
        kept++;
        return kept - 1;
    }

    public long off(int month, int what) {
        settle();
        if (!isMonth(month) || what < 0 || what > 1 || rows.size == 0) {
            return NO_SUCH;
        }
        return Numbers.lowest(driftAbove(months[month]), driftBelow(months[month]), what);
    }

    public int share(int month, int band) {
        settle();
        if (!isMonth(month) || !bands.has(band)) {
            return MISSING;
        }
        return casesIn(months[month], band);
    }

    public int alarm(int m) {
        if (m < 0 || m > 2000) {
            return MISSING;
        }
        settle();
        if (rows.size == 0) {
            return NONE;
        }
        for (int i = 0; i < kept; i++) {
            if (driftAbove(months[i]) * 1000L > driftBelow(months[i]) * m) {
                return i;
            }
        }
        return NONE;
    }

    public int rises(int band) {
        settle();
        if (!bands.has(band)) {
            return MISSING;
        }
        int longest = 0;
        int run = 0;
        int ahead = kept > 0 ? casesIn(months[0], band) : 0;
        for (int i = 1; i < kept; i++) {
            int here = casesIn(months[i], band);
            boolean greater = here * months[i - 1].total > ahead * months[i].total;
            run = greater ? run + 1 : 0;
            longest = Math.max(longest, run);
            ahead = here;
        }
        return longest;
    }

    // ---- OUT

    public int tell() {
        settle();
        out.size = 0;
        for (int k = 0; k < bands.size; k++) {
            out.putNumber(bands.least[k]);
            out.put('-');
            out.putNumber(bands.greatest[k]);
            out.put(' ');
            out.putNumber(bands.good[k]);
            out.put(' ');
            out.putNumber(bands.bad[k]);
            out.put(';');
        }
        return out.size;
    }

    public int octet(int i) {
        return i < 0 || i >= out.size ? NONE : out.store[i];
    }

    // ---- OPEN ones

    public int open(int score) {
        return isScore(score) ? stock.open[score] : MISSING;
    }

    public int infer(int m) {
        if (m < 0 || m > 1000) {
            return MISSING;
        }
        int all = stock.opens();
        if (all == 0) {
            return 0;
        }
        settle();
        if (rows.size == 0) {
            return REFUSED;
        }
        // While an infer() can be undone nothing is OPEN, so its record is not overwritten here.
        inferred.gather(stock, bands, m);
        inferred.move(stock, 1);
        if (!stock.fits()) {
            inferred.move(stock, -1);
            return REFUSED;
        }
        acted(ACT_INFER, 0, 0, 0);
        return all;
    }

    // ---- DECISIONS

    public int decide(int score, int choice) {
        if (!isScore(score) || choice < 0 || choice > 2) {
            return MISSING;
        }
        if (!decisions.hasRoom()) {
            return REFUSED;
        }
        settle();
        best.seek(rows, stock);
        decisions.append(score, choice, best.advice(score));
        acted(ACT_DECIDE, 0, 0, 0);
        return decisions.size - 1;
    }

    public int decision(int i, int what) {
        if (!decisions.has(i)) {
            return MISSING;
        }
        switch (what) {
            case 0: return decisions.score[i];
            case 1: return decisions.choice[i];
            case 2: return decisions.advice[i];
            case 3: return decisions.result[i];
            case 4: return decisions.learntBy[i] != 0 ? 1 : 0;
            default: return MISSING;
        }
    }

    public int outcome(int i, int bad) {
        if (!decisions.has(i) || bad < 0 || bad > 1) {
            return MISSING;
        }
        if (decisions.choice[i] == 0 || decisions.result[i] != NONE) {
            return REFUSED;
        }
        decisions.result[i] = bad;
        acted(ACT_OUTCOME, i, 0, 0);
        return 0;
    }

    public int overrides(int what) {
        if (what < 0 || what > 3) {
            return MISSING;
        }
        int found = 0;
        for (int i = 0; i < decisions.size; i++) {
            if (decisions.isOverride(i, what)) {
                found++;
            }
        }
        return found;
    }

    public int learn() {
        int act = decisions.markPending();
        int learnt = decisions.learntIn(act);
        if (learnt == 0) {
            return 0;
        }
        decisions.move(stock, act, 1);
        if (!stock.fits()) {
            decisions.move(stock, act, -1);
            decisions.unmark(act);
            return REFUSED;
        }
        acted(ACT_LEARN, act, 0, 0);
        return learnt;
    }

    // ---- counts that change

    public int adds(int score, int good, int bad) {
        if (!isScore(score) || !isStep(good) || !isStep(bad)) {
            return MISSING;
        }
        if (good == 0 && bad == 0) {
            return 0;
        }
        stock.move(score, good, bad);
        if (!stock.fits()) {
            stock.move(score, -good, -bad);
            return REFUSED;
        }
        acted(ACT_ADDS, score, good, bad);
        return 1;
    }

    public int sets(int what, int v) {
        boolean known = what == 0 ? v >= 0 && v <= MOST_LEAST : what == 1 && v >= 1 && v <= MOST_ROWS;
        if (!known) {
            return MISSING;
        }
        int before = what == 0 ? stock.least : stock.most;
        if (v != before) {
            stock.setBound(what, v);
            acted(ACT_SETS, what, before, 0);
        }
        return before;
    }

    public int costs(int good, int bad, int refer) {
        if (!isCost(good) || !isCost(bad) || !isCost(refer)) {
            return MISSING;
        }
        if (good == stock.goodCost && bad == stock.badCost && refer == stock.referCost) {
            return 0;
        }
        acted(ACT_COSTS, stock.goodCost, stock.badCost, stock.referCost);
        stock.setCosts(good, bad, refer);
        return 1;
    }

    public int undo() {
        if (acts.size == 0) {
            return NONE;
        }
        acts.size--;
        int i = acts.size;
        turnBack(acts.kind[i], acts.first[i], acts.second[i], acts.third[i]);
        settled = false;
        return acts.size;
    }

    private void turnBack(int kind, int a, int b, int c) {
        switch (kind) {
            case ACT_ADDS:
                stock.move(a, -b, -c);
                break;
            case ACT_SETS:
                stock.setBound(a, b);
                break;
            case ACT_COSTS:
                stock.setCosts(a, b, c);
                break;
            case ACT_DECIDE:
                decisions.dropLast();
                break;
            case ACT_OUTCOME:
                decisions.forget(a);
                break;
            case ACT_LEARN:
                decisions.move(stock, a, -1);
                decisions.unmark(a);
                break;
            case ACT_INFER:
                inferred.move(stock, -1);
                break;
            default:
                break;
        }
    }

    private void acted(int kind, int a, int b, int c) {
        acts.append(kind, a, b, c);
        settled = false;
    }

    /** ROWS and BANDS are made anew only when something they come from has changed. */
    private void settle() {
        if (settled) {
            return;
        }
        rows.fill(stock);
        pure.fillPure(rows);
        bands.copy(pure);
        bands.joinSmall(stock.least);
        bands.joinMany(stock.most);
        if (splits != null) {
            splits.clear();
        }
        settled = true;
    }

    /** The tables of SPLIT are large, so they are made for those objects alone that ask. */
    private Splits splitsUpTo(int k) {
        if (splits == null) {
            splits = new Splits();
        }
        splits.reach(rows, k);
        return splits;
    }

    private void spreadOf(Sample some) {
        Arrays.fill(spread, 0);
        for (int i = 0; i < some.size; i++) {
            int k = bands.place(some.score[i]);
            if (k >= 0) {
                spread[k] += some.cases[i];
            }
        }
    }

    private int casesIn(Sample some, int k) {
        spreadOf(some);
        return spread[k];
    }

    /** How far BAND k is off by the spread made last, over driftBelow(). */
    private long bandOff(Sample some, int k) {
        return Math.abs((long) bands.cases(k) * some.total - (long) spread[k] * rows.cases());
    }

    private long driftAbove(Sample some) {
        spreadOf(some);
        long sum = 0;
        for (int k = 0; k < bands.size; k++) {
            sum += bandOff(some, k);
        }
        return sum;
    }

    private long driftBelow(Sample some) {
        return (long) rows.cases() * some.total;
    }

    private int farthestBand(Sample some) {
        spreadOf(some);
        int most = 0;
        for (int k = 1; k < bands.size; k++) {
            if (bandOff(some, k) > bandOff(some, most)) {
                most = k;
            }
        }
        return most;
    }

    private static long meanBits(long together, int many) {
        return many == 0 ? NO_SUCH : Numbers.doubleBits(Numbers.quotient(together, many));
    }

    private boolean isMonth(int month) {
        return month >= 0 && month < kept;
    }

    private static boolean isScore(int score) {
        return score >= 0 && score < SCORES;
    }

    private static boolean isCut(int c) {
        return c >= 0 && c <= SCORES;
    }

    private static boolean isCost(int v) {
        return v >= 0 && v <= MOST_COST;
    }

    private static boolean isStep(int v) {
        return v >= -MOST_COUNT && v <= MOST_COUNT;
    }

    /** Bytes one behind the other: the TAPE, and OUT. */
    private static final class Bytes {
        final int[] store;
        int size;

        Bytes(int room) {
            store = new int[Math.max(room, 0)];
            size = 0;
        }

        boolean takes(int more) {
            return more <= store.length - size;
        }

        void put(int value) {
            if (takes(1)) {
                store[size] = value & 255;
                size++;
            }
        }

        void putWord(int word) {
            put(word >>> 24);
            put(word >>> 16);
            put(word >>> 8);
            put(word);
        }

        void putNumber(int number) {
            int unit = 1;
            while (unit <= 100000000 && number / unit >= 10) {
                unit *= 10;
            }
            for (; unit > 0; unit /= 10) {
                put('0' + number / unit % 10);
            }
        }
    }

    /** Reads a TEXT; behind the first FAULT nothing is read, so that it stays the one that is told. */
    private static final class Reader {
        private static final int END = 0;
        private static final int WORD = 1;
        private static final int NUMBER = 2;
        private static final int SIGN = 3;
        private static final int STRANGE = 4;
        private static final int TOO_LARGE = 1000000;

        final int[] score = new int[MOST_ROWS];
        final int[] good = new int[MOST_ROWS];
        final int[] bad = new int[MOST_ROWS];
        final int[] open = new int[MOST_ROWS];
        final int[] costs = new int[3];
        int ats;
        int lines;
        int least;
        int most;
        int faultKind;
        int faultPlace = NONE;
        private int toldLines;
        private int kind;
        private int start;
        private int next;
        private int number;

        void readAll(Bytes tape, boolean onlyAts) {
            begin();
            step(tape);
            // Each LINE takes a byte at least, so the TAPE's room is bound enough.
            for (int i = 0; i <= TAPE_ROOM && faultKind == 0 && kind != END; i++) {
                readLine(tape, onlyAts);
                if (kind != SIGN) {
                    fail(1);
                }
                lines++;
                step(tape);
            }
        }

        private void begin() {
            ats = 0;
            lines = 0;
            least = 1;
            most = MOST_ROWS;
            costs[0] = 1;
            costs[1] = 5;
            costs[2] = 1;
            toldLines = 0;
            faultKind = 0;
            faultPlace = NONE;
            next = 0;
        }

        private void fail(int fault) {
            if (faultKind == 0) {
                faultKind = fault;
                faultPlace = start;
            }
        }

        private void readLine(Bytes tape, boolean onlyAts) {
            if (isWord(tape, "at")) {
                readAt(tape);
            } else if (!onlyAts && isWord(tape, "least")) {
                tellOnce(1);
                least = wantNumber(tape, 0, MOST_LEAST);
                step(tape);
            } else if (!onlyAts && isWord(tape, "most")) {
                tellOnce(2);
                most = wantNumber(tape, 1, MOST_ROWS);
                step(tape);
            } else if (!onlyAts && isWord(tape, "cost")) {
                tellOnce(4);
                for (int i = 0; i < costs.length; i++) {
                    costs[i] = wantNumber(tape, 0, MOST_COST);
                }
                step(tape);
            } else {
                fail(1);
            }
        }

        private void tellOnce(int line) {
            if ((toldLines & line) != 0) {
                fail(3);
            }
            toldLines |= line;
        }

        private void readAt(Bytes tape) {
            if (ats >= MOST_ROWS) {
                fail(4);
                return;
            }
            score[ats] = wantNumber(tape, 0, SCORES - 1);
            if (isTold(score[ats])) {
                fail(3);
            }
            wantWord(tape, "good");
            good[ats] = wantNumber(tape, 0, MOST_COUNT);
            wantWord(tape, "bad");
            bad[ats] = wantNumber(tape, 0, MOST_COUNT);
            open[ats] = 0;
            step(tape);
            if (isWord(tape, "open")) {
                open[ats] = wantNumber(tape, 0, MOST_COUNT);
                step(tape);
            }
            ats++;
        }

        private boolean isTold(int some) {
            for (int i = 0; i < ats; i++) {
                if (score[i] == some) {
                    return true;
                }
            }
            return false;
        }

        private void wantWord(Bytes tape, String word) {
            step(tape);
            if (!isWord(tape, word)) {
                fail(1);
            }
        }

        private int wantNumber(Bytes tape, int low, int high) {
            step(tape);
            if (kind != NUMBER) {
                fail(1);
            } else if (number < low || number > high) {
                fail(2);
            }
            return number;
        }

        private boolean isWord(Bytes tape, String word) {
            if (kind != WORD || next - start != word.length()) {
                return false;
            }
            for (int i = 0; i < word.length(); i++) {
                if (tape.store[start + i] != word.charAt(i)) {
                    return false;
                }
            }
            return true;
        }

        private void step(Bytes tape) {
            if (faultKind != 0) {
                return;
            }
            while (next < tape.size && isBlank(tape.store[next])) {
                next++;
            }
            start = next;
            kind = next < tape.size ? kindOf(tape.store[next]) : END;
            number = 0;
            if (kind == SIGN || kind == STRANGE) {
                next++;
                return;
            }
            while (next < tape.size && kindOf(tape.store[next]) == kind) {
                if (kind == NUMBER) {
                    number = Math.min(number * 10 + tape.store[next] - '0', TOO_LARGE);
                }
                next++;
            }
        }

        private static boolean isBlank(int value) {
            return value == 32 || value == 10;
        }

        private static int kindOf(int value) {
            if (value >= 'a' && value <= 'z') {
                return WORD;
            }
            if (value >= '0' && value <= '9') {
                return NUMBER;
            }
            return value == ';' ? SIGN : STRANGE;
        }
    }

    /** The POOL: counts by SCORE, LEAST, MOST and COSTS. */
    private static final class Pool {
        final int[] good = new int[SCORES];
        final int[] bad = new int[SCORES];
        final int[] open = new int[SCORES];
        int least = 1;
        int most = MOST_ROWS;
        int goodCost = 1;
        int badCost = 5;
        int referCost = 1;

        void take(Reader text) {
            Arrays.fill(good, 0);
            Arrays.fill(bad, 0);
            Arrays.fill(open, 0);
            for (int i = 0; i < text.ats; i++) {
                int s = text.score[i];
                good[s] = text.good[i];
                bad[s] = text.bad[i];
                open[s] = text.open[i];
            }
            least = text.least;
            most = text.most;
            setCosts(text.costs[0], text.costs[1], text.costs[2]);
        }

        void setCosts(int ofGood, int ofBad, int ofReferred) {
            goodCost = ofGood;
            badCost = ofBad;
            referCost = ofReferred;
        }

        void setBound(int what, int v) {
            if (what == 0) {
                least = v;
            } else {
                most = v;
            }
        }

        void move(int score, int moreGood, int moreBad) {
            good[score] += moreGood;
            bad[score] += moreBad;
        }

        int opens() {
            int all = 0;
            for (int s = 0; s < SCORES; s++) {
                all += open[s];
            }
            return all;
        }

        /** Whether all counts are 0 .. 99, and there is no 61st ROW. */
        boolean fits() {
            int held = 0;
            for (int s = 0; s < SCORES; s++) {
                if (good[s] < 0 || good[s] > MOST_COUNT || bad[s] < 0 || bad[s] > MOST_COUNT) {
                    return false;
                }
                if (good[s] + bad[s] > 0) {
                    held++;
                }
            }
            return held <= MOST_ROWS;
        }
    }

    /** ROWS, the least SCORE first, with what is ahead of each. */
    private static final class Rows {
        final int[] score = new int[MOST_ROWS];
        final int[] good = new int[MOST_ROWS];
        final int[] bad = new int[MOST_ROWS];
        final int[] goodAhead = new int[MOST_ROWS + 1];
        final int[] badAhead = new int[MOST_ROWS + 1];
        int size;

        void fill(Pool stock) {
            size = 0;
            for (int s = 0; s < SCORES && size < MOST_ROWS; s++) {
                if (stock.good[s] + stock.bad[s] > 0) {
                    score[size] = s;
                    good[size] = stock.good[s];
                    bad[size] = stock.bad[s];
                    size++;
                }
            }
            sumUp();
        }

        /** As many CASES as all has are drawn out of it. */
        void drawFrom(Rows all, long seed) {
            Arrays.fill(good, 0);
            Arrays.fill(bad, 0);
            int many = all.cases();
            long drawing = seed;
            for (int n = 0; n < many; n++) {
                drawing = drawing * 6364136223846793005L + 1442695040888963407L;
                int which = (int) ((drawing >>> 33) % many);
                int i = all.holder(which);
                if (which - all.casesAhead(i) < all.good[i]) {
                    good[i]++;
                } else {
                    bad[i]++;
                }
            }
            closeUp(all);
            sumUp();
        }

        /** A ROW of which none was drawn is no ROW. */
        private void closeUp(Rows all) {
            size = 0;
            for (int i = 0; i < all.size; i++) {
                if (good[i] + bad[i] > 0) {
                    score[size] = all.score[i];
                    good[size] = good[i];
                    bad[size] = bad[i];
                    size++;
                }
            }
        }

        private void sumUp() {
            for (int i = 0; i < size; i++) {
                goodAhead[i + 1] = goodAhead[i] + good[i];
                badAhead[i + 1] = badAhead[i] + bad[i];
            }
        }

        int goods() {
            return goodAhead[size];
        }

        int bads() {
            return badAhead[size];
        }

        int cases() {
            return casesAhead(size);
        }

        int casesAhead(int i) {
            return goodAhead[i] + badAhead[i];
        }

        boolean hasBoth() {
            return goods() > 0 && bads() > 0;
        }

        int greatest() {
            return size == 0 ? NONE : score[size - 1];
        }

        /** How many ROWS have a SCORE below c. */
        int below(int c) {
            int i = 0;
            while (i < size && score[i] < c) {
                i++;
            }
            return i;
        }

        /** The ROW of CASE n, CASES by SCORES; the last one if there are not so many. */
        int holder(int n) {
            int low = 0;
            int high = Math.max(size - 1, 0);
            for (int steps = 0; steps < MOST_ROWS && low < high; steps++) {
                int middle = (low + high) / 2;
                if (casesAhead(middle + 1) > n) {
                    high = middle;
                } else {
                    low = middle + 1;
                }
            }
            return low;
        }

        long scoresTogether(int ofGood, int ofBad) {
            long sum = 0;
            for (int i = 0; i < size; i++) {
                sum += (long) score[i] * (ofGood * good[i] + ofBad * bad[i]);
            }
            return sum;
        }

        /** Two for each GOOD one above a BAD one, one for each two alike. */
        long halvesInOrder() {
            long halves = 0;
            for (int i = 0; i < size; i++) {
                halves += (long) good[i] * (2 * badAhead[i] + bad[i]);
            }
            return halves;
        }

        /** The distance of KS at ROW i, over all GOOD ones times all BAD ones. */
        long apart(int i) {
            return Math.abs((long) goodAhead[i + 1] * bads() - (long) badAhead[i + 1] * goods());
        }

        int farthest() {
            int most = 0;
            for (int i = 1; i < size; i++) {
                if (apart(i) > apart(most)) {
                    most = i;
                }
            }
            return most;
        }

        boolean isRiskier(int j, int i) {
            return bad[j] * (good[i] + bad[i]) > bad[i] * (good[j] + bad[j]);
        }

        /** The least CUT that declines the first i ROWS and no others. */
        int cutBehind(int i) {
            return i == 0 ? 0 : score[i - 1] + 1;
        }

        int costBehind(int i, int ofGood, int ofBad) {
            return ofGood * goodAhead[i] + ofBad * (bads() - badAhead[i]);
        }

        int cheapest(int ofGood, int ofBad) {
            int least = 0;
            for (int i = 1; i <= size; i++) {
                if (costBehind(i, ofGood, ofBad) < costBehind(least, ofGood, ofBad)) {
                    least = i;
                }
            }
            return least;
        }

        int leastCutOf(int m) {
            for (int i = 0; i < size; i++) {
                int accepted = cases() - casesAhead(i);
                if ((bads() - badAhead[i]) * 1000 <= m * accepted) {
                    return cutBehind(i);
                }
            }
            return NONE;
        }

        int greatestCutOf(int m) {
            if (size == 0) {
                return NONE;
            }
            if (m == 0) {
                return SCORES;
            }
            for (int i = size - 1; i > 0; i--) {
                if ((cases() - casesAhead(i)) * 1000 >= m * cases()) {
                    return score[i];
                }
            }
            return score[0];
        }

        int badOfFew(int m) {
            for (int i = 0; i < size; i++) {
                if (casesAhead(i) * 1000 >= m * cases()) {
                    return badAhead[i];
                }
            }
            return bads();
        }
    }

    /** BANDS, the least SCORES first. */
    private static final class Ladder {
        final int[] least = new int[MOST_ROWS];
        final int[] greatest = new int[MOST_ROWS];
        final int[] good = new int[MOST_ROWS];
        final int[] bad = new int[MOST_ROWS];
        final int[] rowsIn = new int[MOST_ROWS];
        int size;

        boolean has(int k) {
            return k >= 0 && k < size;
        }

        int cases(int k) {
            return good[k] + bad[k];
        }

        void fillPure(Rows rows) {
            size = 0;
            for (int i = 0; i < rows.size; i++) {
                least[size] = rows.score[i];
                greatest[size] = rows.score[i];
                good[size] = rows.good[i];
                bad[size] = rows.bad[i];
                rowsIn[size] = 1;
                size++;
                // Those ahead fall already, so the first two to be joined are the last two here.
                for (int n = size; n >= 2 && !falls(n - 2); n--) {
                    join(n - 2);
                }
            }
        }

        void copy(Ladder other) {
            size = other.size;
            System.arraycopy(other.least, 0, least, 0, size);
            System.arraycopy(other.greatest, 0, greatest, 0, size);
            System.arraycopy(other.good, 0, good, 0, size);
            System.arraycopy(other.bad, 0, bad, 0, size);
            System.arraycopy(other.rowsIn, 0, rowsIn, 0, size);
        }

        void joinSmall(int fewest) {
            for (int n = size; n >= 2; n--) {
                int k = smallest();
                if (cases(k) >= fewest) {
                    return;
                }
                join(isLowerNearer(k) ? k - 1 : k);
            }
        }

        void joinMany(int most) {
            for (int n = size; n >= 2 && n > most; n--) {
                join(cheapest());
            }
        }

        /** The BAND that is joined with the next one at the least growth of ERROR. */
        private int cheapest() {
            int cheap = 0;
            for (int k = 1; k < size - 1; k++) {
                if (Numbers.isLess(growthAbove(k), growthBelow(k), growthAbove(cheap), growthBelow(cheap))) {
                    cheap = k;
                }
            }
            return cheap;
        }

        private boolean falls(int k) {
            return bad[k + 1] * cases(k) < bad[k] * cases(k + 1);
        }

        private void join(int k) {
            if (k < 0 || k + 1 >= size) {
                return;
            }
            greatest[k] = greatest[k + 1];
            good[k] += good[k + 1];
            bad[k] += bad[k + 1];
            rowsIn[k] += rowsIn[k + 1];
            size--;
            int behind = size - k - 1;
            System.arraycopy(least, k + 2, least, k + 1, behind);
            System.arraycopy(greatest, k + 2, greatest, k + 1, behind);
            System.arraycopy(good, k + 2, good, k + 1, behind);
            System.arraycopy(bad, k + 2, bad, k + 1, behind);
            System.arraycopy(rowsIn, k + 2, rowsIn, k + 1, behind);
        }

        private int smallest() {
            int few = 0;
            for (int k = 1; k < size; k++) {
                if (cases(k) < cases(few)) {
                    few = k;
                }
            }
            return few;
        }

        private boolean isLowerNearer(int k) {
            if (k == 0) {
                return false;
            }
            if (k == size - 1) {
                return true;
            }
            // Both distances of RATES have the CASES of BAND k below; that factor is left out.
            return rise(k - 1) * cases(k + 1) <= rise(k) * cases(k - 1);
        }

        /** How far the RATES of BAND k and the next are off, over the CASES of both multiplied. */
        private long rise(int k) {
            return Math.abs((long) bad[k] * cases(k + 1) - (long) bad[k + 1] * cases(k));
        }

        long growthAbove(int k) {
            return rise(k) * rise(k);
        }

        long growthBelow(int k) {
            return (long) cases(k) * cases(k + 1) * (cases(k) + cases(k + 1));
        }

        /** The BAND of a SCORE; NONE if there are none. */
        int place(int some) {
            if (size == 0) {
                return NONE;
            }
            int k = size - 1;
            while (k > 0 && least[k] > some) {
                k--;
            }
            return k;
        }

        int goodBelow(int i) {
            int sum = 0;
            for (int k = 0; k < i && k < size; k++) {
                sum += good[k];
            }
            return sum;
        }

        int badBelow(int i) {
            int sum = 0;
            for (int k = 0; k < i && k < size; k++) {
                sum += bad[k];
            }
            return sum;
        }

        /** MIXED for g GOOD ones: from above on BAD ones only grow, so the first line with g has the least. */
        long badWith(int g, int what) {
            int left = g;
            long taken = 0;
            for (int k = size - 1; k >= 0 && left > 0; k--) {
                if (left <= good[k]) {
                    return Numbers.lowest(taken * good[k] + (long) left * bad[k], good[k], what);
                }
                left -= good[k];
                taken += bad[k];
            }
            return Numbers.lowest(taken, 1, what);
        }
    }

    /** The best two CUTS. */
    private static final class TwoCuts {
        int lower;
        int upper;
        int together;

        /** From the last ROW down, so that of like ones the least c, then the least d, is kept. */
        void seek(Rows rows, Pool stock) {
            int low = rows.size;
            int high = rows.size;
            int above = rows.size;
            for (int i = rows.size; i >= 0; i--) {
                if (fromUpper(rows, stock, i) <= fromUpper(rows, stock, above)) {
                    above = i;
                }
                int here = fromLower(rows, stock, i) + fromUpper(rows, stock, above);
                if (here <= fromLower(rows, stock, low) + fromUpper(rows, stock, high)) {
                    low = i;
                    high = above;
                }
            }
            lower = rows.cutBehind(low);
            upper = rows.cutBehind(high);
            together = fromLower(rows, stock, low) + fromUpper(rows, stock, high);
        }

        int advice(int score) {
            if (score < lower) {
                return 0;
            }
            return score < upper ? 1 : 2;
        }

        /** What c adds to the cost: as if all below d were referred, those below c are taken out again. */
        private static int fromLower(Rows rows, Pool stock, int i) {
            return stock.goodCost * rows.goodAhead[i] - stock.referCost * rows.casesAhead(i);
        }

        private static int fromUpper(Rows rows, Pool stock, int i) {
            return stock.referCost * rows.casesAhead(i) + stock.badCost * (rows.bads() - rows.badAhead[i]);
        }
    }

    /** A SAMPLE, which never changes, so that a MONTH may be the same one. */
    private static final class Sample {
        final int[] score;
        final int[] cases;
        final int size;
        final int total;

        Sample(Reader text) {
            size = text.ats;
            score = Arrays.copyOf(text.score, size);
            cases = new int[size];
            int sum = 0;
            for (int i = 0; i < size; i++) {
                cases[i] = text.good[i] + text.bad[i];
                sum += cases[i];
            }
            total = sum;
        }

        long scoresTogether() {
            long sum = 0;
            for (int i = 0; i < size; i++) {
                sum += (long) score[i] * cases[i];
            }
            return sum;
        }
    }

    /** D of SPLIT, told for one number of runs after the other, as far as was asked. */
    private static final class Splits {
        private static final int WIDTH = MOST_ROWS + 1;

        final double[] whole = new double[WIDTH];
        private final int[] begins = new int[WIDTH * WIDTH];
        private double[] fewer = new double[WIDTH];
        private double[] told = new double[WIDTH];
        private int runs;

        void clear() {
            runs = 0;
        }

        void reach(Rows rows, int k) {
            while (runs < k && runs < rows.size) {
                runs++;
                double[] spare = fewer;
                fewer = told;
                told = spare;
                for (int j = runs; j <= rows.size; j++) {
                    tellFor(rows, j);
                }
                whole[runs] = told[rows.size];
            }
        }

        private void tellFor(Rows rows, int j) {
            if (runs == 1) {
                told[j] = runError(rows, 0, j);
                begins[WIDTH + j] = 0;
                return;
            }
            int begin = runs - 1;
            double least = fewer[begin] + runError(rows, begin, j);
            for (int s = runs; s < j; s++) {
                double here = fewer[s] + runError(rows, s, j);
                if (here < least) {
                    least = here;
                    begin = s;
                }
            }
            told[j] = least;
            begins[runs * WIDTH + j] = begin;
        }

        private static double runError(Rows rows, int s, int j) {
            long goods = rows.goodAhead[j] - rows.goodAhead[s];
            long bads = rows.badAhead[j] - rows.badAhead[s];
            return Numbers.quotient(goods * bads, goods + bads);
        }

        /** The first ROW of run i, all ROWS being split in k. */
        int firstRow(int k, int i, int all) {
            int j = all;
            for (int run = k; run > i; run--) {
                j = begins[run * WIDTH + j];
            }
            return j;
        }
    }

    private static final class Decisions {
        private static final int ROOM = 40;

        final int[] score = new int[ROOM];
        final int[] choice = new int[ROOM];
        final int[] advice = new int[ROOM];
        final int[] result = new int[ROOM];
        // The number of the learn() that learnt it, so that just these are undone; 0 if none did.
        final int[] learntBy = new int[ROOM];
        int size;
        private int learns;

        boolean has(int i) {
            return i >= 0 && i < size;
        }

        boolean hasRoom() {
            return size < ROOM;
        }

        void append(int aboutScore, int chosen, int advised) {
            if (!hasRoom()) {
                return;
            }
            score[size] = aboutScore;
            choice[size] = chosen;
            advice[size] = advised;
            result[size] = NONE;
            learntBy[size] = 0;
            size++;
        }

        void dropLast() {
            if (size > 0) {
                size--;
            }
        }

        void forget(int i) {
            if (has(i)) {
                result[i] = NONE;
            }
        }

        private boolean isPending(int i) {
            return result[i] != NONE && learntBy[i] == 0;
        }

        boolean isOverride(int i, int what) {
            switch (what) {
                case 0: return choice[i] > advice[i];
                case 1: return choice[i] < advice[i];
                case 2: return choice[i] > advice[i] && result[i] == 1;
                default: return isPending(i);
            }
        }

        int markPending() {
            learns++;
            for (int i = 0; i < size; i++) {
                if (isPending(i)) {
                    learntBy[i] = learns;
                }
            }
            return learns;
        }

        void unmark(int act) {
            for (int i = 0; i < size; i++) {
                if (learntBy[i] == act) {
                    learntBy[i] = 0;
                }
            }
        }

        int learntIn(int act) {
            int found = 0;
            for (int i = 0; i < size; i++) {
                if (learntBy[i] == act) {
                    found++;
                }
            }
            return found;
        }

        /** Those of one learn() come into the POOL (1), or leave it (-1). */
        void move(Pool stock, int act, int sign) {
            for (int i = 0; i < size; i++) {
                if (learntBy[i] == act) {
                    stock.move(score[i], result[i] == 0 ? sign : 0, result[i] == 1 ? sign : 0);
                }
            }
        }
    }

    /** What the latest infer() made of OPEN ones. */
    private static final class Inferred {
        private final int[] score = new int[MOST_ROWS];
        private final int[] open = new int[MOST_ROWS];
        private final int[] bad = new int[MOST_ROWS];
        private int size;

        void gather(Pool stock, Ladder bands, int m) {
            size = 0;
            for (int s = 0; s < SCORES && size < MOST_ROWS; s++) {
                if (stock.open[s] > 0) {
                    score[size] = s;
                    open[size] = stock.open[s];
                    bad[size] = badOf(stock.open[s], bands, s, m);
                    size++;
                }
            }
        }

        private static int badOf(int many, Ladder bands, int s, int m) {
            int k = bands.place(s);
            long below = bands.has(k) ? 100L * bands.cases(k) : 0;
            if (below == 0) {
                return 0;
            }
            return (int) Math.min((long) many * m * bands.bad[k] / below, many);
        }

        /** From OPEN ones into CASES (1), or back (-1). */
        void move(Pool stock, int sign) {
            for (int i = 0; i < size; i++) {
                stock.open[score[i]] -= sign * open[i];
                stock.move(score[i], sign * (open[i] - bad[i]), sign * bad[i]);
            }
        }
    }

    /** The latest ACTS, each with what undoing it needs. */
    private static final class Acts {
        private static final int ROOM = 10;

        final int[] kind = new int[ROOM];
        final int[] first = new int[ROOM];
        final int[] second = new int[ROOM];
        final int[] third = new int[ROOM];
        int size;

        void append(int what, int a, int b, int c) {
            if (size >= ROOM) {
                dropOldest();
            }
            kind[size] = what;
            first[size] = a;
            second[size] = b;
            third[size] = c;
            size++;
        }

        private void dropOldest() {
            size = ROOM - 1;
            System.arraycopy(kind, 1, kind, 0, size);
            System.arraycopy(first, 1, first, 0, size);
            System.arraycopy(second, 1, second, 0, size);
            System.arraycopy(third, 1, third, 0, size);
        }
    }

    /** Fractions, and the bits of doubles and floats, none of which is below 0 here. */
    private static final class Numbers {
        static double quotient(long above, long below) {
            return below == 0 ? 0.0 : (double) above / (double) below;
        }

        /** Of a fraction in lowest terms what 0: above, 1: the lower number. */
        static long lowest(long above, long below, int what) {
            long shared = above;
            long rest = below;
            // Euclid's steps on longs stay below 100.
            for (int i = 0; i < 100 && rest != 0; i++) {
                long next = shared % rest;
                shared = rest;
                rest = next;
            }
            long asked = what == 0 ? above : below;
            return shared == 0 ? asked : asked / shared;
        }

        /** Whether a / b is less than c / d: by continued fractions, as the products would be too large. */
        static boolean isLess(long a, long b, long c, long d) {
            long w = a;
            long x = b;
            long y = c;
            long z = d;
            boolean turned = false;
            for (int i = 0; i < 100 && x != 0 && z != 0; i++) {
                long p = w / x;
                long q = y / z;
                if (p != q) {
                    return turned ? p > q : p < q;
                }
                // What is left is below 1 on both sides: the one turned over is the greater by being less.
                long left = w - p * x;
                long right = y - q * z;
                w = x;
                x = left;
                y = z;
                z = right;
                turned = !turned;
            }
            // A side without a rest is the greater one when turned over, as if it had no end.
            boolean less = z == 0 && x != 0;
            boolean greater = x == 0 && z != 0;
            return turned ? greater : less;
        }

        static long doubleBits(double value) {
            if (!(value > 0.0)) {
                return 0L;
            }
            double v = value;
            long power = 1023L;
            for (int i = 0; i < 1023 && v >= 2.0; i++) {
                v = v / 2.0;
                power++;
            }
            for (int i = 0; i < 1022 && v < 1.0; i++) {
                v = v * 2.0;
                power--;
            }
            return (power << 52) + (long) ((v - 1.0) * 4503599627370496.0);
        }

        /** Of a float that is not above 1, as no RATE is. */
        static long floatBits(float value) {
            if (!(value > 0.0f)) {
                return 0L;
            }
            float v = value;
            long power = 127L;
            for (int i = 0; i < 126 && v < 1.0f; i++) {
                v = v * 2.0f;
                power--;
            }
            return (power << 23) + (long) ((v - 1.0f) * 8388608.0f);
        }
    }
}
