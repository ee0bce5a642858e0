/** The bounds that the document names, sentence by sentence: CUTS and SPLIT of Terms III, promises 17 to 24, 28, 32 to 34. */
public final class EdgeCutsTest {
    private static final Check CHECK = new Check("edges of cuts");
    private static final long NO_SUCH = RiskBands.NO_SUCH;
    private static final String FULL = Check.rows(0, 60, "good 99 bad 99") + "cost 999 999 999;";
    private static final String ENDS = "at 0 good 1 bad 2;at 999 good 4 bad 8;cost 10 100 1;";

    public static void main(String[] args) {
        oneCut();
        twoCuts();
        bestOfLikeOnes();
        cost();
        cut();
        refer();
        two();
        would();
        limit();
        accepts();
        capture();
        median();
        between();
        split();
        leastOfAll();
        likeSplits();
        splitAt();
        CHECK.closeWith(17, 18, 19, 20, 21, 22, 23, 24, 28, 32, 33, 34);
    }

    // ---- Terms III

    private static void oneCut() {
        CHECK.says(0, "CUT c declines SCORES below c, accepts others");
        RiskBands x = Check.pooled("at 500 good 3 bad 7;cost 10 100 1;");
        CHECK.same("c at the SCORE", x.cost(500), 700);
        CHECK.same("c above it", x.cost(501), 30);
        CHECK.same("c below it", x.cost(499), 700);
        RiskBands y = Check.pooled(ENDS);
        CHECK.same("all accepted", y.cost(0), 1000);
        CHECK.same("0 declined", y.cost(1), 10 + 800);
        CHECK.same("999 accepted", y.cost(999), 10 + 800);
        CHECK.same("all declined", y.cost(1000), 50);
    }

    private static void twoCuts() {
        CHECK.says(0, "CUTS c, d decline those below c, refer those from c to below d, accept others.");
        RiskBands x = Check.pooled("at 500 good 3 bad 7;cost 10 100 1;");
        int[][] due = {{500, 501, 10}, {500, 500, 700}, {501, 501, 30}, {499, 500, 700}, {501, 502, 30}, {499, 501, 10},
            {0, 1000, 10}, {0, 0, 700}, {1000, 1000, 30}};
        for (int[] one : due) {
            CHECK.same("refer(" + one[0] + ", " + one[1] + ")", x.refer(one[0], one[1]), one[2]);
        }
        RiskBands y = Check.pooled(ENDS);
        CHECK.same("0 referred", y.refer(0, 1), 3 + 800);
        CHECK.same("0 declined, 999 referred", y.refer(1, 1000), 10 + 12);
        CHECK.same("0 declined, 999 accepted", y.refer(1, 999), 10 + 800);
        CHECK.same("both referred", y.refer(0, 1000), 15);
    }

    private static void bestOfLikeOnes() {
        CHECK.says(0, "Best: that costs least, of like ones the least c, then the least d.");
        // one CUT costs 30, 20, 20, 30 from below the first ROW on
        RiskBands x = Check.pooled("at 3 good 0 bad 1;at 5 good 1 bad 1;at 7 good 2 bad 1;cost 10 10 999;");
        CHECK.same("the least c", x.cut(0), 4);
        CHECK.same("what it costs", x.cut(1), 20);
        // nothing costs anything
        RiskBands y = Check.pooled("at 3 good 4 bad 5;cost 0 0 0;");
        CHECK.same("c", y.cut(0), 0);
        CHECK.same("c of two", y.two(0), 0);
        CHECK.same("d of two", y.two(1), 0);
        // declining, referring cost 6 each, accepting 9: the least c is of referring
        RiskBands z = Check.pooled("at 5 good 2 bad 1;cost 3 9 2;");
        CHECK.same("the least c", z.two(0), 0);
        CHECK.same("with its d", z.two(1), 6);
        CHECK.same("what they cost", z.two(2), 6);
        // referring, accepting cost nothing for 6: the least d
        RiskBands w = Check.pooled("at 5 good 0 bad 1;at 6 good 1 bad 0;cost 1 1 0;");
        CHECK.same("the least c", w.two(0), 0);
        CHECK.same("the least d", w.two(1), 6);
        // declining and accepting cost alike, referring more: 0, 0 ahead of 6, 6
        RiskBands v = Check.pooled("at 5 good 1 bad 1;cost 4 4 3;");
        CHECK.same("the least c", v.two(0), 0);
        CHECK.same("the least d", v.two(1), 0);
        CHECK.same("what they cost", v.two(2), 4);
    }

    // ---- promises

    private static void cost() {
        CHECK.says(17, "What CUT c costs. -2: c is not 0 .. 1000.");
        RiskBands x = Check.pooled(ENDS);
        RiskBands none = new RiskBands();
        CHECK.within("cost()", 0, 1000, -2, c -> x.cost(c));
        CHECK.within("cost() of none", 0, 1000, -2, c -> none.cost(c));
        CHECK.same("of none", none.cost(0) + none.cost(1000), 0);
        RiskBands full = Check.pooled(FULL);
        CHECK.same("all BAD ones accepted", full.cost(0), 5934060);
        CHECK.same("all GOOD ones declined", full.cost(1000), 5934060);
        CHECK.same("half of both", full.cost(30), 5934060);
        CHECK.same("COSTS of 0", Check.pooled("at 5 good 9 bad 9;cost 0 0 0;").cost(6), 0);
    }

    private static void cut() {
        CHECK.says(18, "The best CUT, what 0: c, 1: what it costs. -2: no such what.");
        RiskBands x = Check.pooled(ENDS);
        CHECK.within("cut()", 0, 1, -2, what -> x.cut(what));
        CHECK.within("cut() of none", 0, 1, -2, what -> new RiskBands().cut(what));
        CHECK.same("c of none", new RiskBands().cut(0), 0);
        CHECK.same("its cost", new RiskBands().cut(1), 0);
        CHECK.same("all declined", x.cut(0), 1000);
        CHECK.same("its cost", x.cut(1), 50);
        CHECK.same("all accepted", Check.pooled("at 0 good 1 bad 0;at 999 good 1 bad 0;").cut(0), 0);
        CHECK.same("0 alone declined", Check.pooled("at 0 good 0 bad 1;at 999 good 1 bad 0;").cut(0), 1);
        CHECK.same("full", Check.pooled(FULL).cut(1), 5934060);
        // 12 accepting all, 14 and 15 declining
        RiskBands y = Check.pooled("at 5 good 2 bad 1;at 6 good 3 bad 2;cost 3 4 1;");
        CHECK.same("c", y.cut(0), 0);
        CHECK.same("three BAD ones", y.cut(1), 12);
        y.costs(3, 6, 1);
        CHECK.same("c", y.cut(0), 7);
        CHECK.same("five GOOD ones", y.cut(1), 15);
        y.costs(3, 5, 1);
        CHECK.same("of like ones the least", y.cut(0), 0);
        CHECK.same("either", y.cut(1), 15);
    }

    private static void refer() {
        CHECK.says(19, "What CUTS c, d cost. -2: they are not 0 .. 1000, c is above d.");
        RiskBands x = Check.pooled(ENDS);
        CHECK.within("refer(c, 1000)", 0, 1000, -2, c -> x.refer(c, 1000));
        CHECK.within("refer(0, d)", 0, 1000, -2, d -> x.refer(0, d));
        CHECK.same("c as d", x.refer(5, 5), 10 + 800);
        CHECK.same("c above d by one", x.refer(6, 5), -2);
        CHECK.same("c above d", x.refer(1000, 0), -2);
        CHECK.same("both too large", x.refer(1001, 1001), -2);
        CHECK.same("both too small", x.refer(-1, -1), -2);
        RiskBands none = new RiskBands();
        CHECK.same("of none", none.refer(0, 1000), 0);
        CHECK.same("of none, c above d", none.refer(1, 0), -2);
        CHECK.same("full", Check.pooled(FULL).refer(0, 1000), 11868120);
    }

    private static void two() {
        CHECK.says(20, "The best two CUTS, what 0: c, 1: d, 2: what they cost. -2: no such what.");
        RiskBands x = Check.pooled(ENDS);
        CHECK.within("two()", 0, 2, -2, what -> x.two(what));
        CHECK.same("all referred, c", x.two(0), 0);
        CHECK.same("all referred, d", x.two(1), 1000);
        CHECK.same("all referred", x.two(2), 15);
        x.costs(10, 100, 999);
        CHECK.same("all declined, c", x.two(0), 1000);
        CHECK.same("all declined, d", x.two(1), 1000);
        x.costs(10, 1, 999);
        CHECK.same("all accepted, c", x.two(0), 0);
        CHECK.same("all accepted, d", x.two(1), 0);
        RiskBands none = new RiskBands();
        CHECK.same("of none", none.two(0) + none.two(1) + none.two(2), 0);
        CHECK.within("two() of none", 0, 2, -2, what -> none.two(what));
        CHECK.same("full", Check.pooled(FULL).two(2), 5934060);
        // declined, referred, accepted, each at its bounds
        RiskBands y = Check.pooled("at 0 good 0 bad 9;at 500 good 9 bad 9;at 999 good 9 bad 0;cost 9 9 1;");
        CHECK.same("c", y.two(0), 1);
        CHECK.same("d", y.two(1), 501);
        CHECK.same("what they cost", y.two(2), 18);
    }

    private static void would() {
        CHECK.says(21, "The best CUT, were the COSTS of GOOD ones a, of BAD ones b (0 .. 999). -2: they can't be.");
        RiskBands x = Check.pooled("at 0 good 1 bad 2;at 999 good 4 bad 8;");
        CHECK.within("would(a, 1)", 0, 999, -2, a -> x.would(a, 1));
        CHECK.within("would(1, b)", 0, 999, -2, b -> x.would(1, b));
        CHECK.within("would(a, 1) of none", 0, 999, -2, a -> new RiskBands().would(a, 1));
        CHECK.same("both can't be", x.would(1000, -1), -2);
        CHECK.same("a 0", x.would(0, 999), 1000);
        CHECK.same("b 0", x.would(999, 0), 0);
        CHECK.same("both 0", x.would(0, 0), 0);
        CHECK.same("both 999", x.would(999, 999), 1000);
        CHECK.same("alike: the least", x.would(2, 1), 0);
        CHECK.same("COSTS stay", x.count(6) * 100 + x.count(7) * 10 + x.count(8), 151);
        CHECK.same("no act", x.count(11), 0);
        CHECK.same("of none", new RiskBands().would(5, 5), 0);
    }

    private static void limit() {
        CHECK.says(22, "The least c by which of those that CUT c accepts, one at least, no more than m (0 .. 1000) of 1000"
                + " are BAD. NONE: there is none; -2: m can't be.");
        RiskBands x = Check.pooled("at 0 good 1 bad 3;at 10 good 3 bad 1;at 999 good 4 bad 0;");
        // 4/12, 1/8, 0
        int[][] due = {{1000, 0}, {334, 0}, {333, 1}, {126, 1}, {125, 1}, {124, 11}, {1, 11}, {0, 11}};
        for (int[] one : due) {
            CHECK.same("limit(" + one[0] + ")", x.limit(one[0]), one[1]);
        }
        CHECK.within("limit()", 0, 1000, -2, m -> x.limit(m));
        RiskBands bad = Check.pooled("at 999 good 0 bad 1;");
        CHECK.same("one at least", bad.limit(0), -1);
        CHECK.same("one at least", bad.limit(999), -1);
        CHECK.same("just 1000", bad.limit(1000), 0);
        RiskBands good = Check.pooled("at 999 good 1 bad 0;");
        CHECK.same("just 0", good.limit(0), 0);
        RiskBands none = new RiskBands();
        CHECK.same("no CASES", none.limit(0), -1);
        CHECK.same("no CASES", none.limit(1000), -1);
        CHECK.same("-2 ahead of NONE", none.limit(1001), -2);
        CHECK.same("-2 ahead of NONE", none.limit(-1), -2);
        // the least c, not the first that has less than one ahead: 2/4, then 2/3, then 0
        RiskBands y = Check.pooled("at 1 good 1 bad 0;at 2 good 0 bad 2;at 3 good 1 bad 0;");
        CHECK.same("rates that rise", y.limit(500), 0);
        CHECK.same("rates that rise", y.limit(499), 3);
        CHECK.same("full", Check.pooled(FULL).limit(500), 0);
        CHECK.same("full", Check.pooled(FULL).limit(499), -1);
    }

    private static void accepts() {
        CHECK.says(23, "The greatest c by which CUT c accepts m (0 .. 1000) of 1000 of all CASES at least. NONE: there are"
                + " no CASES; -2: m can't be.");
        RiskBands x = Check.pooled("at 0 good 1 bad 3;at 10 good 3 bad 1;at 999 good 8 bad 0;");
        // from 999 on 8/16, from 10 on 12/16
        int[][] due = {{0, 1000}, {1, 999}, {499, 999}, {500, 999}, {501, 10}, {750, 10}, {751, 0}, {1000, 0}};
        for (int[] one : due) {
            CHECK.same("accepts(" + one[0] + ")", x.accepts(one[0]), one[1]);
        }
        CHECK.within("accepts()", 0, 1000, -2, m -> x.accepts(m));
        RiskBands none = Check.pooled("at 5 good 0 bad 0 open 5;");
        CHECK.same("no CASES", none.accepts(0), -1);
        CHECK.same("no CASES", none.accepts(1000), -1);
        CHECK.same("-2 ahead of NONE", none.accepts(-1), -2);
        CHECK.same("-2 ahead of NONE", none.accepts(1001), -2);
        RiskBands one = Check.pooled("at 7 good 1 bad 0;");
        CHECK.same("one, all", one.accepts(1000), 7);
        CHECK.same("one, any", one.accepts(1), 7);
        CHECK.same("one, none", one.accepts(0), 1000);
        RiskBands full = Check.pooled(FULL);
        CHECK.same("full, all", full.accepts(1000), 0);
        CHECK.same("full, half", full.accepts(500), 30);
        CHECK.same("full, more than half", full.accepts(501), 29);
        // 1 of 60 is 16.6 of 1000
        CHECK.same("full, the last ROW", full.accepts(16), 59);
        CHECK.same("full, one ROW more", full.accepts(17), 58);
        // 999 of 1999 are not 500 of 1000, 1000 are
        String many = Check.rows(0, 10, "good 99 bad 1") + Check.rows(10, 9, "good 99 bad 1");
        CHECK.same("just too few", Check.pooled(many + "at 19 good 99 bad 0;").accepts(500), 9);
        CHECK.same("just as many", Check.pooled(many + "at 19 good 99 bad 1;").accepts(500), 10);
    }

    private static void capture() {
        CHECK.says(24, "BAD ones among as few ROWS, the least SCORES, as have m (0 .. 1000) of 1000 of all CASES at least."
                + " -2: m can't be.");
        RiskBands x = Check.pooled("at 0 good 1 bad 3;at 10 good 3 bad 1;at 999 good 7 bad 1;");
        int[][] due = {{0, 0}, {1, 3}, {249, 3}, {250, 3}, {251, 4}, {500, 4}, {501, 5}, {1000, 5}};
        for (int[] one : due) {
            CHECK.same("capture(" + one[0] + ")", x.capture(one[0]), one[1]);
        }
        CHECK.within("capture()", 0, 1000, -2, m -> x.capture(m));
        CHECK.within("capture() of none", 0, 1000, -2, m -> new RiskBands().capture(m));
        CHECK.same("no CASES", new RiskBands().capture(0), 0);
        CHECK.same("no CASES", new RiskBands().capture(1000), 0);
        RiskBands full = Check.pooled(FULL);
        CHECK.same("full, all", full.capture(1000), 5940);
        CHECK.same("full, half", full.capture(500), 2970);
        CHECK.same("full, more than half", full.capture(501), 3069);
        String many = Check.rows(1, 9, "good 99 bad 1") + Check.rows(10, 10, "good 99 bad 1");
        CHECK.same("just too few", Check.pooled(many + "at 0 good 98 bad 1;").capture(500), 11);
        CHECK.same("just as many", Check.pooled(many + "at 0 good 99 bad 1;").capture(500), 10);
    }

    private static void median() {
        CHECK.says(28, "that of the CASE with half of all, cut, ahead of it (CASES by SCORES). NONE: no CASES.");
        CHECK.same("no CASES", new RiskBands().median(), -1);
        CHECK.same("OPEN ones alone", Check.pooled("at 5 good 0 bad 0 open 9;").median(), -1);
        CHECK.same("one", Check.pooled("at 0 good 1 bad 0;").median(), 0);
        CHECK.same("1 of 2 ahead", Check.pooled("at 0 good 1 bad 0;at 999 good 0 bad 1;").median(), 999);
        CHECK.same("1 of 3 ahead", Check.pooled("at 0 good 1 bad 1;at 999 good 0 bad 1;").median(), 0);
        CHECK.same("1 of 3 ahead", Check.pooled("at 0 good 1 bad 0;at 999 good 1 bad 1;").median(), 999);
        CHECK.same("2 of 4 ahead", Check.pooled("at 0 good 1 bad 1;at 999 good 1 bad 1;").median(), 999);
        CHECK.same("2 of 5 ahead", Check.pooled("at 0 good 1 bad 1;at 5 good 0 bad 1;at 999 good 1 bad 1;").median(), 5);
        CHECK.same("full", Check.pooled(FULL).median(), 30);
    }

    private static void between() {
        CHECK.says(32, "From SCORE c to below SCORE d (0 .. 1000 each) what 0: GOOD ones, 1: BAD ones, 2: ROWS. -2: there"
                + " are none such, c is above d.");
        RiskBands x = Check.pooled("at 0 good 1 bad 2;at 500 good 4 bad 8;at 999 good 16 bad 32;");
        int[][] due = {{0, 1000, 21, 42, 3}, {0, 999, 5, 10, 2}, {1, 1000, 20, 40, 2}, {500, 501, 4, 8, 1},
            {500, 500, 0, 0, 0}, {501, 999, 0, 0, 0}, {499, 500, 0, 0, 0}, {0, 0, 0, 0, 0}, {0, 1, 1, 2, 1},
            {1000, 1000, 0, 0, 0}, {999, 1000, 16, 32, 1}};
        for (int[] one : due) {
            for (int what = 0; what < 3; what++) {
                CHECK.same("between(" + one[0] + ", " + one[1] + ", " + what + ")", x.between(one[0], one[1], what),
                        one[2 + what]);
            }
        }
        CHECK.within("between(c, 1000, 0)", 0, 1000, -2, c -> x.between(c, 1000, 0));
        CHECK.within("between(0, d, 1)", 0, 1000, -2, d -> x.between(0, d, 1));
        CHECK.within("between(0, 1000, what)", 0, 2, -2, what -> x.between(0, 1000, what));
        CHECK.same("c above d by one", x.between(501, 500, 2), -2);
        CHECK.same("both too large", x.between(1001, 1001, 0), -2);
        CHECK.same("both too small", x.between(-1, -1, 0), -2);
        RiskBands none = new RiskBands();
        CHECK.same("of none", none.between(0, 1000, 0), 0);
        CHECK.same("of none, no such what", none.between(0, 1000, 3), -2);
        RiskBands full = Check.pooled(FULL);
        CHECK.same("full", full.between(0, 1000, 0), 5940);
        CHECK.same("full", full.between(0, 60, 1), 5940);
        CHECK.same("full", full.between(0, 59, 2), 59);
    }

    private static void split() {
        CHECK.says(33, "SPLIT of all ROWS into k runs (1 .. ROWS): its ERROR as a double's bits. NO_SUCH: k can't be.");
        RiskBands x = Check.pooled("at 1 good 1 bad 4;at 2 good 3 bad 3;at 3 good 6 bad 2;");
        CHECK.within("split() of three", 1, 3, NO_SUCH, k -> x.split(k));
        CHECK.same("one run", x.split(1), Check.bits(90.0 / 19.0));
        // 4/5 + 45/14, or 28/11 + 12/8
        CHECK.same("two runs", x.split(2), Check.bits(4.0 / 5.0 + 45.0 / 14.0));
        CHECK.same("three runs", x.split(3), Check.bits(4.0 / 5.0 + 9.0 / 6.0 + 12.0 / 8.0));
        RiskBands one = Check.pooled("at 1 good 1 bad 4;");
        CHECK.within("split() of one", 1, 1, NO_SUCH, k -> one.split(k));
        for (int k = -1; k < 3; k++) {
            CHECK.same("of none", new RiskBands().split(k), NO_SUCH);
        }
        RiskBands full = Check.pooled(Check.falling());
        CHECK.within("split() of sixty", 1, 60, NO_SUCH, k -> full.split(k));
        double sum = 0.0;
        for (int i = 0; i < 60; i++) {
            sum = sum + (double) ((40 + i) * (99 - i)) / 139.0;
        }
        CHECK.same("sixty runs", full.split(60), Check.bits(sum));
        CHECK.same("one run of sixty", full.split(1), Check.bits(4170.0 * 4170.0 / 8340.0));
        // MOST and LEAST do not matter: it is ROWS that are split
        full.sets(1, 1);
        CHECK.same("sixty runs", full.split(60), Check.bits(sum));
        // changed counts, fewer ROWS, and back again
        x.adds(3, -6, -2);
        CHECK.same("two ROWS", x.split(3), NO_SUCH);
        CHECK.same("two ROWS", x.split(2), Check.bits(4.0 / 5.0 + 9.0 / 6.0));
        x.undo();
        CHECK.same("three again", x.split(3), Check.bits(4.0 / 5.0 + 9.0 / 6.0 + 12.0 / 8.0));
    }

    /** All ways to begin the last of k runs, from the least on, as the document tells D; of each run its first ROW. */
    private static void leastOfAll() {
        CHECK.says(0, "SPLIT: ERROR of a run of ROWS (double): (double) (GOOD ones times BAD ones) by (double) its CASES; D of j"
                + " ROWS, the least SCORES, in k runs: of one run its ERROR; else the least of (D of the first s ROWS in k less 1"
                + " runs) + (ERROR of those from s to j)");
        int[][] rows = {{3, 9}, {1, 8}, {7, 6}, {2, 2}, {9, 5}, {4, 4}, {8, 1}, {0, 3}};
        StringBuilder text = new StringBuilder();
        for (int i = 0; i < rows.length; i++) {
            text.append(Check.rows(10 * i, 1, "good " + rows[i][0] + " bad " + rows[i][1]));
        }
        RiskBands x = Check.pooled(text.toString());
        for (int k = 1; k <= rows.length; k++) {
            CHECK.same("split(" + k + ")", x.split(k), Check.bits(least(rows, rows.length, k)));
            int j = rows.length;
            for (int i = k - 1; i >= 0; i--) {
                j = begin(rows, j, i + 1);
                CHECK.same("splitAt(" + k + ", " + i + ")", x.splitAt(k, i), 10 * j);
            }
        }
    }

    private static double least(int[][] rows, int j, int k) {
        int s = begin(rows, j, k);
        return k == 1 ? runError(rows, 0, j) : least(rows, s, k - 1) + runError(rows, s, j);
    }

    private static int begin(int[][] rows, int j, int k) {
        int begin = k - 1;
        for (int s = k; k > 1 && s < j; s++) {
            double here = least(rows, s, k - 1) + runError(rows, s, j);
            if (here < least(rows, begin, k - 1) + runError(rows, begin, j)) {
                begin = s;
            }
        }
        return begin;
    }

    private static double runError(int[][] rows, int s, int j) {
        int good = 0;
        int bad = 0;
        for (int i = s; i < j; i++) {
            good += rows[i][0];
            bad += rows[i][1];
        }
        return (double) (good * bad) / (double) (good + bad);
    }

    private static void likeSplits() {
        CHECK.says(0, "s from k less 1 to j less 1; the last run begins at the least such s; those ahead likewise.");
        RiskBands x = Check.pooled("at 1 good 1 bad 0;at 2 good 1 bad 0;at 3 good 1 bad 0;at 4 good 1 bad 0;");
        int[][] due = {{1}, {1, 2}, {1, 2, 3}, {1, 2, 3, 4}};
        for (int k = 1; k <= 4; k++) {
            CHECK.same("split(" + k + ")", x.split(k), 0);
            for (int i = 0; i < k; i++) {
                CHECK.same("splitAt(" + k + ", " + i + ")", x.splitAt(k, i), due[k - 1][i]);
            }
        }
        // 1, 0, 0, 1 by RATES: runs of no ERROR are 1 | 2 3 | 4
        RiskBands y = Check.pooled("at 1 good 0 bad 1;at 2 good 1 bad 0;at 3 good 1 bad 0;at 4 good 0 bad 1;");
        CHECK.same("splitAt(3, 1)", y.splitAt(3, 1), 2);
        CHECK.same("splitAt(3, 2)", y.splitAt(3, 2), 4);
        // two runs: 1 | rest 2/3, or 1 2 3 | 4 the same
        CHECK.same("splitAt(2, 1)", y.splitAt(2, 1), 2);
        CHECK.same("split(2)", y.split(2), Check.bits(2.0 / 3.0));
        // the first run alone may be the longest, the last one as well
        RiskBands z = Check.pooled("at 1 good 1 bad 0;at 2 good 2 bad 0;at 3 good 3 bad 0;at 4 good 0 bad 1;");
        CHECK.same("the last run has one ROW", z.splitAt(2, 1), 4);
        RiskBands w = Check.pooled("at 1 good 0 bad 1;at 2 good 2 bad 0;at 3 good 3 bad 0;at 4 good 1 bad 0;");
        CHECK.same("the first run has one ROW", w.splitAt(2, 1), 2);
    }

    private static void splitAt() {
        CHECK.says(34, "The least SCORE of run i (from 0) of that SPLIT. -2: there are none such.");
        RiskBands x = Check.pooled("at 0 good 1 bad 4;at 7 good 3 bad 3;at 999 good 6 bad 2;");
        CHECK.within("splitAt(k, 0)", 1, 3, -2, k -> x.splitAt(k, 0));
        for (int k = 1; k <= 3; k++) {
            int runs = k;
            CHECK.within("splitAt(" + k + ", i)", 0, k - 1, -2, i -> x.splitAt(runs, i));
            CHECK.same("the first run", x.splitAt(k, 0), 0);
        }
        CHECK.same("the second of two", x.splitAt(2, 1), 7);
        CHECK.same("the second of three", x.splitAt(3, 1), 7);
        CHECK.same("the third of three", x.splitAt(3, 2), 999);
        CHECK.same("no such SPLIT", x.splitAt(4, 3), -2);
        CHECK.same("no such SPLIT", x.splitAt(0, 0), -2);
        CHECK.same("of none", new RiskBands().splitAt(1, 0), -2);
        CHECK.same("of none", new RiskBands().splitAt(0, 0), -2);
        RiskBands full = Check.pooled(Check.falling());
        CHECK.within("splitAt(60, i)", 0, 59, -2, i -> full.splitAt(60, i));
        CHECK.same("splitAt(60, 59)", full.splitAt(60, 59), 159);
        CHECK.same("splitAt(61, 0)", full.splitAt(61, 0), -2);
        // asked for fewer runs behind more, and for more behind fewer
        CHECK.same("splitAt(2, 1)", full.splitAt(2, 1), 130);
        CHECK.same("splitAt(60, 30)", full.splitAt(60, 30), 130);
    }
}
