/** The bounds that the document names, sentence by sentence: Terms IV, promises 25 to 27, 30, 35 to 39. */
public final class EdgeSampleTest {
    private static final Check CHECK = new Check("edges of samples");
    private static final long NO_SUCH = RiskBands.NO_SUCH;
    // BANDS of 4, 2, 2 CASES
    private static final String THREE = "at 10 good 1 bad 3;at 20 good 1 bad 1;at 30 good 2 bad 0;";
    private static final String OPEN_ALONE = "at 10 good 0 bad 0 open 9;";

    public static void main(String[] args) {
        casesOfTheSample();
        shares();
        drift();
        chi();
        mean();
        resample();
        drawnCases();
        ofThoseDrawn();
        month();
        monthRefused();
        off();
        share();
        alarm();
        rises();
        CHECK.closeWith(25, 26, 27, 30, 35, 36, 37, 38, 39);
    }

    /** An object with this POOL and this SAMPLE. */
    private static RiskBands beside(String pool, String sample) {
        RiskBands x = Check.pooled(pool);
        if (Check.sampled(x, sample) < 0) {
            throw new IllegalArgumentException("FAULT of " + sample);
        }
        return x;
    }

    private static void keep(RiskBands x, String sample) {
        if (Check.sampled(x, sample) < 0 || x.month() < 0) {
            throw new IllegalArgumentException("no MONTH of " + sample);
        }
    }

    private static void isFraction(String call, long above, long below, long dueAbove, long dueBelow) {
        CHECK.same(call + ", above", above, dueAbove);
        CHECK.same(call + ", the lower number", below, dueBelow);
    }

    // ---- Terms IV

    private static void casesOfTheSample() {
        CHECK.says(0, "The SAMPLE: CASES by SCORES (its at-LINES: good and bad together).");
        RiskBands x = beside(THREE, "at 10 good 3 bad 0;at 20 good 0 bad 4;at 30 good 2 bad 3 open 9;");
        CHECK.same("GOOD ones", x.band(0, 7), 3);
        CHECK.same("BAD ones", x.band(1, 7), 4);
        CHECK.same("both, without OPEN ones", x.band(2, 7), 5);
        CHECK.same("CASES", x.count(10), 12);
        // a SCORE of no ROW belongs to a BAND too
        Check.sampled(x, "at 0 good 1 bad 0;at 9 good 2 bad 0;at 29 good 4 bad 0;at 31 good 8 bad 0;at 999 good 16 bad 0;");
        CHECK.same("below the first", x.band(0, 7), 3);
        CHECK.same("between", x.band(1, 7), 4);
        CHECK.same("above the last", x.band(2, 7), 24);
    }

    private static void shares() {
        CHECK.says(0, "DRIFT: how far SHARES of BANDS are off those of the SAMPLE, without signs, together.");
        RiskBands same = beside(THREE, "at 10 good 2 bad 0;at 20 good 1 bad 0;at 30 good 1 bad 0;");
        isFraction("none", same.drift(0), same.drift(1), 0, 1);
        RiskBands one = beside("at 5 good 1 bad 1;", "at 999 good 1 bad 0;");
        isFraction("one BAND", one.drift(0), one.drift(1), 0, 1);
        // 1/2 and 1/2 beside 0 and 1
        RiskBands two = beside("at 5 good 0 bad 1;at 6 good 1 bad 0;", "at 6 good 5 bad 5;");
        isFraction("half of both", two.drift(0), two.drift(1), 1, 1);
        // 1/5842 and 5841/5842 beside 1 and 0
        RiskBands most = beside("at 0 good 0 bad 1;" + Check.rows(1, 59, "good 99 bad 0"), "at 0 good 1 bad 0;");
        isFraction("nearly 2", most.drift(0), most.drift(1), 5841, 2921);
        RiskBands full = beside(Check.falling(), Check.rows(100, 60, "good 99 bad 99"));
        isFraction("full", full.drift(0), full.drift(1), 0, 1);
    }

    // ---- promises

    private static void drift() {
        CHECK.says(25, "2: the BAND that is off most (of like ones the first).");
        RiskBands x = beside(THREE, "at 10 good 2 bad 0;at 20 good 1 bad 0;at 30 good 1 bad 0;");
        CHECK.same("none is off", x.drift(2), 0);
        // 1/2, 1/4, 1/4 beside 1/2, 1/2, 0
        Check.sampled(x, "at 10 good 1 bad 0;at 20 good 1 bad 0;");
        CHECK.same("of like ones the first", x.drift(2), 1);
        // beside 1/2, 0, 1/2
        Check.sampled(x, "at 10 good 1 bad 0;at 30 good 1 bad 0;");
        CHECK.same("without signs", x.drift(2), 1);
        // beside 1, 0, 0
        Check.sampled(x, "at 10 good 1 bad 0;");
        CHECK.same("the first", x.drift(2), 0);
        // beside 0, 0, 1
        Check.sampled(x, "at 30 good 1 bad 0;");
        CHECK.same("the last", x.drift(2), 2);
        // fewer BANDS than there were
        x.sets(1, 2);
        CHECK.same("the first of two", x.drift(2), 0);
        x.sets(1, 1);
        CHECK.same("the only one", x.drift(2), 0);

        CHECK.says(25, "DRIFT, what 0: above, 1: the lower number (lowest terms)");
        // 4/8, 2/8, 2/8 beside 1/6, 3/6, 2/6: 8/24 and 6/24 and 2/24
        RiskBands y = beside(THREE, "at 10 good 1 bad 0;at 20 good 1 bad 2;at 30 good 2 bad 0;");
        isFraction("drift()", y.drift(0), y.drift(1), 2, 3);
        // 3 of 4, 1 of 4 beside 3 of 7, 4 of 7
        RiskBands z = beside("at 5 good 1 bad 2;at 6 good 1 bad 0;", "at 5 good 3 bad 0;at 6 good 0 bad 4;");
        isFraction("drift()", z.drift(0), z.drift(1), 9, 14);

        CHECK.says(25, "NO_SUCH: there are no CASES, none of the SAMPLE; no such what.");
        CHECK.within("drift()", 0, 2, NO_SUCH, what -> x.drift(what));
        for (int what = -1; what < 4; what++) {
            CHECK.same("no SAMPLE", Check.pooled(THREE).drift(what), NO_SUCH);
            CHECK.same("one of no CASES", beside(THREE, "at 10 good 0 bad 0 open 5;").drift(what), NO_SUCH);
            CHECK.same("no CASES", beside(OPEN_ALONE, "at 10 good 1 bad 0;").drift(what), NO_SUCH);
            CHECK.same("neither", new RiskBands().drift(what), NO_SUCH);
        }
        CHECK.same("one CASE each", beside("at 5 good 1 bad 0;", "at 5 good 0 bad 1;").drift(1), 1);
    }

    private static void chi() {
        CHECK.says(26, "from 0.0 on, BAND by BAND, (o - e) * (o - e) / e is added");
        RiskBands same = beside(THREE, "at 10 good 2 bad 0;at 20 good 1 bad 0;at 30 good 1 bad 0;");
        CHECK.same("none is off", same.chi(), 0);
        CHECK.same("one BAND", beside("at 5 good 1 bad 1;", "at 999 good 7 bad 0;").chi(), 0);
        // e 2/3, 1/3: a BAND without CASES of the SAMPLE is added too
        RiskBands two = beside("at 5 good 0 bad 2;at 6 good 1 bad 0;", "at 6 good 1 bad 0;");
        double e = 2.0 / 3.0;
        double f = 1.0 / 3.0;
        double due = 0.0 + (0.0 - e) * (0.0 - e) / e;
        CHECK.same("two BANDS", two.chi(), Check.bits(due + (1.0 - f) * (1.0 - f) / f));
        RiskBands full = beside(Check.falling(), Check.rows(100, 60, "good 99 bad 99"));
        CHECK.same("full", full.chi(), 0);

        CHECK.says(26, "o (double) its CASES of the SAMPLE, e (double) (its CASES times all of the SAMPLE) by (double) all"
                + " CASES.");
        // each other way to reckon it, which were as good on paper, has other last bits
        RiskBands three = beside("at 1 good 0 bad 2;at 2 good 1 bad 1;at 3 good 2 bad 0;",
                "at 1 good 1 bad 0;at 2 good 3 bad 1;at 3 good 0 bad 2;");
        double each = 14.0 / 6.0;
        double sum = 0.0;
        for (double o : new double[] {1.0, 4.0, 2.0}) {
            sum = sum + (o - each) * (o - each) / each;
        }
        CHECK.same("three BANDS", three.chi(), Check.bits(sum));
        // 11880 times 11880 by 11880
        RiskBands large = beside(Check.rows(0, 60, "good 99 bad 99"), Check.rows(0, 60, "good 99 bad 99"));
        CHECK.same("all in one BAND", large.chi(), 0);

        CHECK.says(26, "NO_SUCH: there are no CASES, none of the SAMPLE.");
        CHECK.same("no SAMPLE", Check.pooled(THREE).chi(), NO_SUCH);
        CHECK.same("one of no CASES", beside(THREE, "at 10 good 0 bad 0;").chi(), NO_SUCH);
        CHECK.same("no CASES", beside(OPEN_ALONE, "at 10 good 1 bad 0;").chi(), NO_SUCH);
        CHECK.same("neither", new RiskBands().chi(), NO_SUCH);
    }

    private static void mean() {
        CHECK.says(27, "The mean SCORE of GOOD ones (what 0), BAD ones (1), all (2), all of the SAMPLE (3)");
        RiskBands x = beside("at 0 good 3 bad 0;at 999 good 0 bad 2;", "at 0 good 1 bad 1;at 7 good 0 bad 1;");
        double[] due = {0.0, 999.0, 1998.0 / 5.0, 7.0 / 3.0};
        for (int what = 0; what < 4; what++) {
            CHECK.same("mean(" + what + ")", x.mean(what), Check.bits(due[what]));
        }
        RiskBands full = beside(Check.rows(940, 60, "good 99 bad 99"), Check.rows(940, 60, "good 99 bad 99"));
        for (int what = 0; what < 4; what++) {
            CHECK.same("full", full.mean(what), Check.bits(969.5));
        }

        CHECK.says(27, "NO_SUCH: there are none such.");
        CHECK.within("mean()", 0, 3, NO_SUCH, what -> x.mean(what));
        CHECK.same("no GOOD ones", Check.pooled("at 5 good 0 bad 1;").mean(0), NO_SUCH);
        CHECK.same("no BAD ones", Check.pooled("at 5 good 1 bad 0;").mean(1), NO_SUCH);
        CHECK.same("no CASES", Check.pooled(OPEN_ALONE).mean(2), NO_SUCH);
        CHECK.same("no SAMPLE", Check.pooled(THREE).mean(3), NO_SUCH);
        CHECK.same("one of no CASES", beside(THREE, "at 5 good 0 bad 0;").mean(3), NO_SUCH);
        CHECK.same("a SAMPLE alone", beside("", "at 5 good 0 bad 1;").mean(3), Check.bits(5.0));
        CHECK.same("a SAMPLE alone", beside("", "at 5 good 0 bad 1;").mean(2), NO_SUCH);
    }

    private static void resample() {
        CHECK.says(30, "NO_SUCH: there are no CASES; no such what.");
        RiskBands x = Check.pooled(THREE);
        for (long seed : new long[] {0, -1, Long.MIN_VALUE, Long.MAX_VALUE}) {
            CHECK.within("resample()", 0, 2, NO_SUCH, what -> x.resample(seed, what));
            for (int what = -1; what < 4; what++) {
                CHECK.same("no CASES", new RiskBands().resample(seed, what), NO_SUCH);
                CHECK.same("OPEN ones alone", Check.pooled(OPEN_ALONE).resample(seed, what), NO_SUCH);
            }
        }
        CHECK.refused("no such what", () -> Check.pooled(THREE), y -> y.resample(5, 3), NO_SUCH);
        RiskBands y = Check.pooled(THREE);
        y.resample(5, 0);
        y.resample(5, 1);
        y.resample(5, 2);
        CHECK.text("nothing changes by drawing", Look.at(y), Look.at(Check.pooled(THREE)));
    }

    private static void drawnCases() {
        CHECK.says(30, "As many CASES are drawn as there are, each anew out of all: the seed becomes it times"
                + " 6364136223846793005 and 1442695040888963407 (longs, going round); that, shifted right by 33 without"
                + " sign, modulo CASES is which one (from 0, ROW by ROW, in each GOOD ones first).");
        RiskBands one = Check.pooled("at 999 good 0 bad 1;");
        CHECK.same("one CASE", one.resample(7, 0), 1);
        CHECK.same("one CASE", one.resample(7, 1), 1000);
        CHECK.same("one CASE", one.resample(7, 2), 1);
        RiskBands good = Check.pooled("at 0 good 1 bad 0;");
        CHECK.same("one GOOD CASE", good.resample(7, 0), 0);
        CHECK.same("one GOOD CASE", good.resample(7, 1), 0);
        for (long seed : new long[] {0, 1, -1, 33, Long.MAX_VALUE, Long.MIN_VALUE, 0x7fffffffL, 1L << 33}) {
            drawnOf("of two", new int[][] {{5, 1, 0}, {6, 0, 1}}, seed);
            drawnOf("GOOD ones first", new int[][] {{5, 3, 4}}, seed);
            drawnOf("of many", new int[][] {{0, 1, 9}, {10, 5, 5}, {11, 6, 4}, {500, 8, 2}, {999, 9, 1}}, seed);
            int[][] full = new int[60][];
            for (int i = 0; i < 60; i++) {
                full[i] = new int[] {i, 40 + i, 99 - i};
            }
            drawnOf("of sixty ROWS", full, seed);
        }
    }

    private static void ofThoseDrawn() {
        CHECK.says(30, "Of those drawn, what 0: BAD ones, 1: the best CUT (COSTS as they are), 2: how many PURE BANDS.");
        // few CASES, so that some ROWS are not drawn at all, the first, those between, the last
        for (long seed = 0; seed < 100; seed++) {
            drawnOf("of two", new int[][] {{5, 0, 1}, {6, 1, 0}}, seed);
            drawnOf("of three", new int[][] {{5, 0, 1}, {6, 1, 0}, {7, 0, 1}}, seed);
            drawnOf("of three", new int[][] {{5, 0, 2}, {6, 1, 1}, {7, 1, 0}}, seed);
            drawnOf("of five", new int[][] {{5, 0, 1}, {6, 1, 0}, {7, 0, 1}, {8, 1, 0}, {9, 1, 0}}, seed);
        }
        RiskBands x = Check.pooled("at 5 good 1 bad 1;at 6 good 1 bad 1;");
        boolean differs = false;
        for (long seed = 0; seed < 50; seed++) {
            x.costs(1, 0, 1);
            CHECK.same("GOOD ones alone cost: accept all", x.resample(seed, 1), 0);
            x.costs(0, 1, 1);
            differs |= x.resample(seed, 1) != 0;
        }
        CHECK.same("BAD ones alone cost: decline", differs ? 1 : 0, 1);
    }

    /** The same drawing, by each CASE in a row of its own. */
    private static void drawnOf(String name, int[][] rows, long seed) {
        StringBuilder text = new StringBuilder("cost 7 5 1;");
        int all = 0;
        for (int[] row : rows) {
            text.append(Check.rows(row[0], 1, "good " + row[1] + " bad " + row[2]));
            all += row[1] + row[2];
        }
        int[] scores = new int[all];
        boolean[] bad = new boolean[all];
        int next = 0;
        for (int[] row : rows) {
            for (int i = 0; i < row[1] + row[2]; i++) {
                scores[next] = row[0];
                bad[next++] = i >= row[1];
            }
        }
        int[][] drawn = new int[1000][2];
        long drawing = seed;
        int bads = 0;
        for (int n = 0; n < all; n++) {
            drawing = drawing * 6364136223846793005L + 1442695040888963407L;
            int which = (int) ((drawing >>> 33) % all);
            drawn[scores[which]][bad[which] ? 1 : 0]++;
            bads += bad[which] ? 1 : 0;
        }
        RiskBands x = Check.pooled(text.toString());
        RiskBands y = new RiskBands();
        y.costs(7, 5, 1);
        for (int score = 0; score < 1000; score++) {
            // a hundred of one SCORE can be drawn, which no POOL can have: then it is not compared
            if (drawn[score][0] > 99 || drawn[score][1] > 99) {
                return;
            }
            if (drawn[score][0] + drawn[score][1] > 0) {
                y.adds(score, drawn[score][0], drawn[score][1]);
            }
        }
        CHECK.same(name + ", BAD ones by " + seed, x.resample(seed, 0), bads);
        CHECK.same(name + ", the best CUT by " + seed, x.resample(seed, 1), y.cut(0));
        CHECK.same(name + ", PURE BANDS by " + seed, x.resample(seed, 2), y.count(13));
    }

    private static void month() {
        CHECK.says(35, "The SAMPLE is kept as the next MONTH: its number.");
        RiskBands x = Check.pooled(THREE);
        for (int i = 0; i < 12; i++) {
            Check.sampled(x, "at 10 good " + (i + 1) + " bad 0;");
            CHECK.same("month()", x.month(), i);
            CHECK.same("MONTHS", x.count(15), i + 1);
            CHECK.same("the SAMPLE stays", x.count(10), i + 1);
        }
        for (int i = 0; i < 12; i++) {
            CHECK.same("share(" + i + ", 0)", x.share(i, 0), i + 1);
        }
        RiskBands y = beside("", "at 10 good 1 bad 0;");
        CHECK.same("without CASES", y.month(), 0);
        CHECK.same("the same once more", y.month(), 1);
        // pool() takes them, so that the next one is the first again
        Check.feed(y, THREE);
        y.pool();
        Check.sampled(y, "at 10 good 1 bad 0;");
        CHECK.same("behind pool()", y.month(), 0);
        CHECK.same("one CASE", beside(THREE, "at 10 good 0 bad 1;").month(), 0);
    }

    private static RiskBands ofTwelve() {
        RiskBands x = beside(THREE, "at 10 good 1 bad 0;at 20 good 2 bad 0;");
        for (int i = 0; i < 12; i++) {
            x.month();
        }
        x.adds(10, 1, 0);
        Check.sampled(x, "at 30 good 5 bad 0;");
        return x;
    }

    private static void monthRefused() {
        CHECK.says(35, "-5: there are 12; the SAMPLE has no CASES.");
        CHECK.refused("a 13th", EdgeSampleTest::ofTwelve, x -> x.month(), -5);
        CHECK.refused("no SAMPLE", () -> Check.pooled(THREE), x -> x.month(), -5);
        CHECK.refused("one of no CASES", () -> beside(THREE, "at 10 good 0 bad 0 open 9;"), x -> x.month(), -5);
        CHECK.refused("of a new object", RiskBands::new, x -> x.month(), -5);
        RiskBands x = ofTwelve();
        Check.sampled(x, "");
        CHECK.same("both", x.month(), -5);
        CHECK.says(0, "MONTHS: SAMPLES that were kept, numbered from 0 (12 at most).");
        CHECK.same("MONTHS", x.count(15), 12);
        CHECK.same("the last one", x.share(11, 1), 2);
        CHECK.same("no 13th", x.share(12, 1), -2);
    }

    private static void off() {
        CHECK.says(36, "DRIFT by a MONTH in place of the SAMPLE, what 0: above, 1: the lower number. NO_SUCH: there are no"
                + " CASES, there is none such.");
        RiskBands x = Check.pooled(THREE);
        CHECK.same("no MONTH", x.off(0, 0), NO_SUCH);
        keep(x, "at 10 good 2 bad 0;at 20 good 1 bad 0;at 30 good 1 bad 0;");
        keep(x, "at 999 good 1 bad 0;");
        Check.sampled(x, "at 10 good 1 bad 0;");
        isFraction("MONTH 0", x.off(0, 0), x.off(0, 1), 0, 1);
        isFraction("MONTH 1", x.off(1, 0), x.off(1, 1), 3, 2);
        CHECK.within("off(month, 1)", 0, 1, NO_SUCH, month -> x.off(month, 1));
        CHECK.within("off(0, what)", 0, 1, NO_SUCH, what -> x.off(0, what));
        Check.sampled(x, "");
        isFraction("without a SAMPLE", x.off(1, 0), x.off(1, 1), 3, 2);
        RiskBands full = ofTwelve();
        CHECK.within("off(month, 1) of 12", 0, 11, NO_SUCH, month -> full.off(month, 1));
        RiskBands none = beside("", "at 10 good 1 bad 0;");
        none.month();
        CHECK.same("no CASES", none.off(0, 0), NO_SUCH);
        CHECK.same("no CASES", none.off(0, 1), NO_SUCH);
        none.adds(5, 1, 0);
        isFraction("one CASE", none.off(0, 0), none.off(0, 1), 0, 1);
    }

    private static void share() {
        CHECK.says(37, "CASES of a MONTH in a BAND. -2: there are none such.");
        RiskBands x = Check.pooled(THREE);
        CHECK.same("no MONTH", x.share(0, 0), -2);
        keep(x, "at 0 good 1 bad 0;at 19 good 2 bad 0;at 20 good 0 bad 4;at 30 good 0 bad 0 open 7;");
        keep(x, "at 999 good 99 bad 99;");
        CHECK.same("share(0, 0)", x.share(0, 0), 3);
        CHECK.same("share(0, 1)", x.share(0, 1), 4);
        CHECK.same("share(0, 2)", x.share(0, 2), 0);
        CHECK.same("share(1, 2)", x.share(1, 2), 198);
        CHECK.within("share(month, 0)", 0, 1, -2, month -> x.share(month, 0));
        CHECK.within("share(0, band)", 0, 2, -2, band -> x.share(0, band));
        x.sets(1, 1);
        CHECK.same("one BAND", x.share(0, 0), 7);
        CHECK.same("no second", x.share(0, 1), -2);
        RiskBands none = beside("", "at 10 good 1 bad 0;");
        none.month();
        CHECK.same("no BANDS", none.share(0, 0), -2);
        RiskBands full = beside(Check.rows(0, 60, "good 9 bad 9"), Check.rows(0, 60, "good 99 bad 99"));
        full.month();
        CHECK.same("full", full.share(0, 0), 11880);
    }

    private static void alarm() {
        CHECK.says(38, "The first MONTH whose DRIFT is above m (0 .. 2000) of 1000. NONE: none is (there are no CASES); -2:"
                + " m can't be.");
        RiskBands x = Check.pooled(THREE);
        CHECK.same("no MONTHS", x.alarm(0), -1);
        CHECK.same("-2 ahead of NONE", x.alarm(2001), -2);
        CHECK.same("-2 ahead of NONE", x.alarm(-1), -2);
        // DRIFTS 0, 1/4 (5/8 beside 1/2), 1, 3/2
        keep(x, "at 10 good 2 bad 0;at 20 good 1 bad 0;at 30 good 1 bad 0;");
        CHECK.same("none is", x.alarm(0), -1);
        keep(x, "at 10 good 5 bad 0;at 20 good 2 bad 0;at 30 good 1 bad 0;");
        keep(x, "at 10 good 1 bad 0;");
        keep(x, "at 999 good 1 bad 0;");
        int[][] due = {{0, 1}, {1, 1}, {249, 1}, {250, 2}, {999, 2}, {1000, 3}, {1499, 3}, {1500, -1}, {1999, -1}, {2000, -1}};
        for (int[] one : due) {
            CHECK.same("alarm(" + one[0] + ")", x.alarm(one[0]), one[1]);
        }
        CHECK.within("alarm()", 0, 2000, -2, m -> x.alarm(m));
        // nearly 2, which is above 1999
        RiskBands most = beside("at 0 good 0 bad 1;" + Check.rows(1, 59, "good 99 bad 0"), "at 0 good 99 bad 99;");
        most.month();
        CHECK.same("1999.6 is above 1999", most.alarm(1999), 0);
        CHECK.same("none is above 2000", most.alarm(2000), -1);
        RiskBands none = beside(OPEN_ALONE, "at 10 good 1 bad 0;");
        none.month();
        CHECK.same("no CASES", none.alarm(0), -1);
        CHECK.within("alarm() without CASES", 0, 2000, -2, m -> none.alarm(m));
        RiskBands last = ofTwelve();
        last.undo();
        CHECK.same("the first of twelve", last.alarm(0), 0);
        RiskBands y = Check.pooled(THREE);
        for (int i = 0; i < 11; i++) {
            keep(y, "at 10 good 2 bad 0;at 20 good 1 bad 0;at 30 good 1 bad 0;");
        }
        keep(y, "at 10 good 1 bad 0;");
        CHECK.same("the last of twelve", y.alarm(0), 11);
    }

    private static void rises() {
        CHECK.says(39, "The most MONTHS one behind the other in each of which the SHARE of a BAND is greater than in the"
                + " MONTH ahead. -2: there is none such.");
        RiskBands x = Check.pooled("at 5 good 0 bad 1;at 6 good 1 bad 0;");
        CHECK.same("no MONTH", x.rises(0), 0);
        for (int i = 0; i < 12; i++) {
            keep(x, "at 5 good " + (i + 1) + " bad 0;at 6 good 1 bad 0;");
            CHECK.same("all rise", x.rises(0), i);
            CHECK.same("none rises", x.rises(1), 0);
        }
        CHECK.within("rises()", 0, 1, -2, band -> x.rises(band));
        CHECK.same("no BANDS", new RiskBands().rises(0), -2);
        // more CASES, but the same SHARE, or a lesser one
        RiskBands y = Check.pooled("at 5 good 0 bad 1;at 6 good 1 bad 0;");
        keep(y, "at 5 good 1 bad 0;at 6 good 1 bad 0;");
        keep(y, "at 5 good 9 bad 0;at 6 good 9 bad 0;");
        CHECK.same("as great", y.rises(0), 0);
        keep(y, "at 5 good 49 bad 0;at 6 good 48 bad 0;");
        CHECK.same("a little greater", y.rises(0), 1);
        keep(y, "at 5 good 98 bad 0;at 6 good 97 bad 0;");
        CHECK.same("a little lesser", y.rises(0), 1);
        CHECK.same("the other one rises once", y.rises(1), 1);
        keep(y, "at 5 good 2 bad 0;at 6 good 1 bad 0;");
        keep(y, "at 5 good 1 bad 0;");
        CHECK.same("two at the end", y.rises(0), 2);
        keep(y, "at 6 good 1 bad 0;");
        keep(y, "at 5 good 1 bad 0;");
        CHECK.same("one behind a fall", y.rises(0), 2);
        // all of many CASES but one are in the BAND, then all
        RiskBands full = Check.pooled("at 5 good 0 bad 1;at 6 good 1 bad 0;");
        keep(full, Check.rows(6, 59, "good 99 bad 99") + "at 5 good 1 bad 0;");
        keep(full, Check.rows(6, 60, "good 99 bad 99"));
        CHECK.same("of many CASES", full.rises(1), 1);
        CHECK.same("of many CASES", full.rises(0), 0);
    }
}
