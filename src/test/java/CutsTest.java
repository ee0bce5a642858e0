/** Promises 17 to 24, 28, 32 to 34: CUTS and what they cost, limits, yields, runs of ROWS. */
public final class CutsTest {
    private static final Check CHECK = new Check("cuts");
    private static final long NO_SUCH = RiskBands.NO_SUCH;
    private static final String SIX = "at 100 good 1 bad 4;at 200 good 3 bad 3;at 300 good 6 bad 2;at 999 good 9 bad 0;";

    public static void main(String[] args) {
        promise17Cost();
        promise18Cut();
        promise19Refer();
        promise20Two();
        promise21Would();
        promise22Limit();
        promise23Accepts();
        promise24Capture();
        promise28Median();
        promise32Between();
        promise33Split();
        promise34SplitAt();
        CHECK.close();
    }

    private static void promise17Cost() {
        RiskBands x = Check.pooled(SIX + "cost 2 3 1;");
        int[][] due = {{0, 27}, {100, 27}, {101, 17}, {200, 17}, {201, 14}, {301, 20}, {999, 20}, {1000, 38}};
        for (int[] one : due) {
            CHECK.same("17: cost(" + one[0] + ")", x.cost(one[0]), one[1]);
        }
        CHECK.same("17: below 0", x.cost(-1), -2);
        CHECK.same("17: above 1000", x.cost(1001), -2);
    }

    private static void promise18Cut() {
        RiskBands x = Check.pooled(SIX + "cost 2 3 1;");
        CHECK.same("18: c", x.cut(0), 201);
        CHECK.same("18: its cost", x.cut(1), 14);
        CHECK.same("18: no such what", x.cut(2), -2);
        CHECK.same("18: no such what", x.cut(-1), -2);
        // costs 9, 5, 5, ..: of like ones the least
        RiskBands y = Check.pooled("at 5 good 0 bad 4;at 6 good 1 bad 1;at 7 good 9 bad 4;cost 1 1 0;");
        CHECK.same("18: of like ones the least", y.cut(0), 6);
        CHECK.same("18: nothing costs", Check.pooled(SIX + "cost 0 0 0;").cut(0), 0);
        CHECK.same("18: all declined", Check.pooled(SIX + "at 998 good 0 bad 1;cost 0 1 0;").cut(0), 999);
        CHECK.same("18: behind the last", Check.pooled("at 999 good 0 bad 1;").cut(0), 1000);
        CHECK.same("18: of none", new RiskBands().cut(0), 0);
    }

    private static void promise19Refer() {
        RiskBands x = Check.pooled(SIX + "cost 20 300 1;");
        CHECK.same("19: as one CUT", x.refer(201, 201), 80 + 600);
        CHECK.same("19: all referred", x.refer(0, 1000), 28);
        CHECK.same("19: from 200 on", x.refer(200, 301), 20 + 14);
        CHECK.same("19: up to below 300", x.refer(101, 300), 20 + 6 + 600);
        CHECK.same("19: all declined", x.refer(1000, 1000), 380);
        CHECK.same("19: c above d", x.refer(2, 1), -2);
        CHECK.same("19: below 0", x.refer(-1, 0), -2);
        CHECK.same("19: above 1000", x.refer(1000, 1001), -2);
    }

    private static void promise20Two() {
        RiskBands x = Check.pooled(SIX + "cost 20 300 11;");
        // 100: declined 20, referred 55; 200: 60 or 66; 300: 120 or 88
        CHECK.same("20: c", x.two(0), 201);
        CHECK.same("20: d", x.two(1), 301);
        CHECK.same("20: its cost", x.two(2), 20 + 60 + 88);
        CHECK.same("20: no such what", x.two(3), -2);
        CHECK.same("20: no such what", x.two(-1), -2);
        // declining and referring cost alike: the least c, though d is greater
        RiskBands y = Check.pooled("at 5 good 2 bad 1;cost 3 9 2;");
        CHECK.same("20: the least c", y.two(0), 0);
        CHECK.same("20: cost", y.two(2), 6);
        CHECK.same("20: d behind the referred", y.two(1), 6);
        // referring the last one, who is GOOD, costs nothing: the least d of like ones
        RiskBands z = Check.pooled("at 5 good 0 bad 1;at 6 good 1 bad 0;cost 1 1 0;");
        CHECK.same("20: the least c", z.two(0), 0);
        CHECK.same("20: the least d", z.two(1), 6);
        CHECK.same("20: cost", z.two(2), 0);
    }

    private static void promise21Would() {
        RiskBands x = Check.pooled(SIX);
        CHECK.same("21: would(2, 3)", x.would(2, 3), 201);
        CHECK.same("21: would(0, 1)", x.would(0, 1), 301);
        CHECK.same("21: would(1, 0)", x.would(1, 0), 0);
        CHECK.same("21: would(999, 999)", x.would(999, 999), 101);
        CHECK.same("21: would(0, 0)", x.would(0, 0), 0);
        CHECK.same("21: COSTS stay", x.count(6), 1);
        CHECK.same("21: can't be", x.would(1000, 0), -2);
        CHECK.same("21: can't be", x.would(0, 1000), -2);
        CHECK.same("21: can't be", x.would(-1, 0), -2);
        CHECK.same("21: can't be", x.would(0, -1), -2);
    }

    private static void promise22Limit() {
        RiskBands x = Check.pooled(SIX);
        // accepted from 0: 9/28 = 321.4; 101: 5/23 = 217.3; 201: 2/17 = 117.6; 301: 0/9
        int[][] due = {{1000, 0}, {322, 0}, {321, 101}, {218, 101}, {217, 201}, {118, 201}, {117, 301}, {0, 301}};
        for (int[] one : due) {
            CHECK.same("22: limit(" + one[0] + ")", x.limit(one[0]), one[1]);
        }
        CHECK.same("22: just m", Check.pooled("at 1 good 3 bad 1;").limit(250), 0);
        CHECK.same("22: there is none", Check.pooled("at 1 good 3 bad 1;").limit(249), -1);
        CHECK.same("22: one at least", Check.pooled("at 1 good 0 bad 1;").limit(999), -1);
        CHECK.same("22: no CASES", new RiskBands().limit(1000), -1);
        CHECK.same("22: can't be", x.limit(-1), -2);
        CHECK.same("22: can't be", new RiskBands().limit(1001), -2);
    }

    private static void promise23Accepts() {
        RiskBands x = Check.pooled(SIX);
        // from 999: 9/28 = 321.4; 300: 17/28 = 607.1; 200: 23/28 = 821.4; 100: all
        int[][] due = {{0, 1000}, {1, 999}, {321, 999}, {322, 300}, {607, 300}, {608, 200}, {821, 200}, {822, 100},
            {1000, 100}};
        for (int[] one : due) {
            CHECK.same("23: accepts(" + one[0] + ")", x.accepts(one[0]), one[1]);
        }
        CHECK.same("23: just m", Check.pooled("at 1 good 3 bad 0;at 2 good 1 bad 0;").accepts(250), 2);
        CHECK.same("23: no CASES", new RiskBands().accepts(0), -1);
        CHECK.same("23: can't be", new RiskBands().accepts(-1), -2);
        CHECK.same("23: can't be", x.accepts(1001), -2);
    }

    private static void promise24Capture() {
        RiskBands x = Check.pooled(SIX);
        // CASES 5, 11, 19, 28 of 28: 178.5, 392.8, 678.5
        int[][] due = {{0, 0}, {1, 4}, {178, 4}, {179, 7}, {392, 7}, {393, 9}, {679, 9}, {1000, 9}};
        for (int[] one : due) {
            CHECK.same("24: capture(" + one[0] + ")", x.capture(one[0]), one[1]);
        }
        CHECK.same("24: just m", Check.pooled("at 1 good 0 bad 1;at 2 good 0 bad 3;").capture(250), 1);
        CHECK.same("24: no CASES", new RiskBands().capture(1000), 0);
        CHECK.same("24: can't be", x.capture(-1), -2);
        CHECK.same("24: can't be", x.capture(1001), -2);
    }

    private static void promise28Median() {
        CHECK.same("28: no CASES", new RiskBands().median(), -1);
        CHECK.same("28: one", Check.pooled("at 7 good 1 bad 0;").median(), 7);
        CHECK.same("28: two", Check.pooled("at 7 good 1 bad 0;at 8 good 0 bad 1;").median(), 8);
        CHECK.same("28: three", Check.pooled("at 7 good 1 bad 1;at 8 good 0 bad 1;").median(), 7);
        CHECK.same("28: four", Check.pooled("at 7 good 1 bad 1;at 8 good 0 bad 2;").median(), 8);
        CHECK.same("28: 28", Check.pooled(SIX).median(), 300);
    }

    private static void promise32Between() {
        RiskBands x = Check.pooled(SIX);
        CHECK.same("32: GOOD ones", x.between(100, 300, 0), 4);
        CHECK.same("32: BAD ones", x.between(101, 301, 1), 5);
        CHECK.same("32: ROWS", x.between(0, 1000, 2), 4);
        CHECK.same("32: the last", x.between(999, 1000, 0), 9);
        CHECK.same("32: none", x.between(999, 999, 0), 0);
        CHECK.same("32: none above", x.between(1000, 1000, 2), 0);
        CHECK.same("32: c above d", x.between(2, 1, 0), -2);
        CHECK.same("32: no such c", x.between(-1, 1, 0), -2);
        CHECK.same("32: no such d", x.between(0, 1001, 0), -2);
        CHECK.same("32: no such what", x.between(0, 1, 3), -2);
        CHECK.same("32: no such what", x.between(0, 1, -1), -2);
    }

    private static void promise33Split() {
        RiskBands x = Check.pooled(SIX);
        // errors: 4/5, 9/6, 12/8, 0; pairs 28/11, 45/14, 30/17; all 19 9 / 28
        CHECK.same("33: one run", x.split(1), Check.bits(171.0 / 28.0));
        CHECK.same("33: two runs", x.split(2), Check.bits(28.0 / 11.0 + 30.0 / 17.0));
        CHECK.same("33: three runs", x.split(3), Check.bits(4.0 / 5.0 + 45.0 / 14.0 + 0.0));
        CHECK.same("33: four runs", x.split(4), Check.bits(4.0 / 5.0 + 9.0 / 6.0 + 12.0 / 8.0 + 0.0));
        CHECK.same("33: five", x.split(5), NO_SUCH);
        CHECK.same("33: none", x.split(0), NO_SUCH);
        CHECK.same("33: no ROWS", new RiskBands().split(1), NO_SUCH);
        x.adds(999, 0, 3);
        CHECK.same("33: counts that changed", x.split(1), Check.bits(19.0 * 12.0 / 31.0));
        x.undo();
        CHECK.same("33: undone", x.split(1), Check.bits(171.0 / 28.0));
    }

    private static void promise34SplitAt() {
        RiskBands x = Check.pooled(SIX);
        int[][] due = {{1, 0, 100}, {2, 0, 100}, {2, 1, 300}, {3, 0, 100}, {3, 1, 200}, {3, 2, 999}, {4, 1, 200}};
        for (int[] one : due) {
            CHECK.same("34: splitAt(" + one[0] + ", " + one[1] + ")", x.splitAt(one[0], one[1]), one[2]);
        }
        CHECK.same("34: no such run", x.splitAt(2, 2), -2);
        CHECK.same("34: no such run", x.splitAt(2, -1), -2);
        CHECK.same("34: no such split", x.splitAt(5, 0), -2);
        CHECK.same("34: no such split", x.splitAt(0, 0), -2);
        // all alike: the last run begins at the least s
        RiskBands y = Check.pooled("at 1 good 1 bad 0;at 2 good 1 bad 0;at 3 good 1 bad 0;at 4 good 1 bad 0;");
        CHECK.same("34: of like ones the least", y.splitAt(2, 1), 2);
        CHECK.same("34: those ahead likewise", y.splitAt(3, 1), 2);
        CHECK.same("34: those ahead likewise", y.splitAt(3, 2), 3);
    }
}
