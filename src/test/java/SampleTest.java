/** Promises 25 to 27, 30, 35 to 39: the SAMPLE, DRIFT, MONTHS, CASES drawn anew. */
public final class SampleTest {
    private static final Check CHECK = new Check("sample");
    private static final long NO_SUCH = RiskBands.NO_SUCH;
    // BANDS of 4, 2, 2 CASES
    private static final String THREE = "at 10 good 1 bad 3;at 20 good 1 bad 1;at 30 good 2 bad 0;";

    public static void main(String[] args) {
        promise25Drift();
        promise26Chi();
        promise27Mean();
        promise30Resample();
        promise35Month();
        promise36Off();
        promise37Share();
        promise38Alarm();
        promise39Rises();
        CHECK.close();
    }

    private static void promise25Drift() {
        RiskBands x = Check.pooled(THREE);
        CHECK.same("25: no SAMPLE", x.drift(0), NO_SUCH);
        Check.sampled(x, "at 5 good 1 bad 0;at 25 good 1 bad 1;");
        // 1/2, 1/4, 1/4 beside 1/3, 2/3, 0: 1/6, 5/12, 1/4
        CHECK.same("25: above", x.drift(0), 5);
        CHECK.same("25: lower", x.drift(1), 6);
        CHECK.same("25: the BAND", x.drift(2), 1);
        CHECK.same("25: no such what", x.drift(3), NO_SUCH);
        CHECK.same("25: no such what", x.drift(-1), NO_SUCH);
        Check.sampled(x, "at 10 good 0 bad 2;at 20 good 1 bad 0;at 30 good 1 bad 0;");
        CHECK.same("25: none", x.drift(0), 0);
        CHECK.same("25: none", x.drift(1), 1);
        CHECK.same("25: of like ones the first", x.drift(2), 0);
        Check.sampled(x, "at 20 good 0 bad 0;");
        CHECK.same("25: none of the SAMPLE", x.drift(2), NO_SUCH);
        RiskBands y = new RiskBands();
        Check.sampled(y, "at 10 good 0 bad 2;");
        CHECK.same("25: no CASES", y.drift(0), NO_SUCH);
        // 1/2, 1/4, 1/4 beside 3/4, 0, 1/4: 1/4 twice
        Check.sampled(x, "at 10 good 3 bad 0;at 30 good 1 bad 0;");
        CHECK.same("25: of two alike the first", x.drift(2), 0);
    }

    private static void promise26Chi() {
        RiskBands x = Check.pooled(THREE);
        CHECK.same("26: no SAMPLE", x.chi(), NO_SUCH);
        Check.sampled(x, "at 5 good 1 bad 0;at 25 good 1 bad 1;");
        double due = (1.0 - 1.5) * (1.0 - 1.5) / 1.5 + (2.0 - 0.75) * (2.0 - 0.75) / 0.75 + 0.75 * 0.75 / 0.75;
        CHECK.same("26: chi()", x.chi(), Check.bits(due));
        RiskBands y = new RiskBands();
        Check.sampled(y, "at 10 good 0 bad 2;");
        CHECK.same("26: no CASES", y.chi(), NO_SUCH);
    }

    private static void promise27Mean() {
        RiskBands x = Check.pooled(THREE);
        CHECK.same("27: GOOD ones", x.mean(0), Check.bits(90.0 / 4.0));
        CHECK.same("27: BAD ones", x.mean(1), Check.bits(50.0 / 4.0));
        CHECK.same("27: all", x.mean(2), Check.bits(140.0 / 8.0));
        CHECK.same("27: no SAMPLE", x.mean(3), NO_SUCH);
        Check.sampled(x, "at 5 good 1 bad 1;at 26 good 1 bad 0;");
        CHECK.same("27: the SAMPLE", x.mean(3), Check.bits(36.0 / 3.0));
        CHECK.same("27: no such what", x.mean(4), NO_SUCH);
        CHECK.same("27: no such what", x.mean(-1), NO_SUCH);
        CHECK.same("27: no BAD ones", Check.pooled("at 0 good 1 bad 0;").mean(1), NO_SUCH);
        CHECK.same("27: SCORE 0", Check.pooled("at 0 good 1 bad 0;").mean(0), 0);
        CHECK.same("27: no CASES", new RiskBands().mean(2), NO_SUCH);
    }

    private static void promise30Resample() {
        RiskBands x = Check.pooled(THREE);
        int[] scores = {10, 10, 10, 10, 20, 20, 30, 30};
        boolean[] bad = {false, true, true, true, false, true, false, false};
        for (long seed : new long[] {0, 1, -1, 42, Long.MAX_VALUE, Long.MIN_VALUE}) {
            int due = 0;
            long drawn = seed;
            int[] cost = new int[32];
            for (int n = 0; n < 8; n++) {
                drawn = drawn * 6364136223846793005L + 1442695040888963407L;
                int which = (int) ((drawn >>> 33) % 8);
                due += bad[which] ? 1 : 0;
                for (int c = 0; c < 32; c++) {
                    boolean declined = scores[which] < c;
                    cost[c] += bad[which] && !declined ? 5 : !bad[which] && declined ? 1 : 0;
                }
            }
            int best = 0;
            for (int c = 1; c < 32; c++) {
                best = cost[c] < cost[best] ? c : best;
            }
            CHECK.same("30: BAD ones by " + seed, x.resample(seed, 0), due);
            CHECK.same("30: the best CUT by " + seed, x.resample(seed, 1), best);
        }
        CHECK.same("30: the POOL stays", x.count(2), 4);
        CHECK.same("30: PURE BANDS of one", Check.pooled("at 5 good 3 bad 3;").resample(7, 2), 1);
        CHECK.same("30: no such what", x.resample(1, 3), NO_SUCH);
        CHECK.same("30: no such what", x.resample(1, -1), NO_SUCH);
        CHECK.same("30: no CASES", new RiskBands().resample(1, 2), NO_SUCH);
    }

    private static void promise35Month() {
        RiskBands x = Check.pooled(THREE);
        CHECK.same("35: no SAMPLE", x.month(), -5);
        Check.sampled(x, "at 5 good 0 bad 0;");
        CHECK.same("35: no CASES", x.month(), -5);
        Check.sampled(x, "at 5 good 1 bad 0;");
        for (int i = 0; i < 12; i++) {
            CHECK.same("35: MONTH " + i, x.month(), i);
        }
        CHECK.same("35: a 13th", x.month(), -5);
        CHECK.same("35: MONTHS", x.count(15), 12);
        CHECK.same("35: the SAMPLE stays", x.count(10), 1);
        CHECK.same("35: no act", x.count(11), 0);
        // without a POOL too
        RiskBands y = new RiskBands();
        Check.sampled(y, "at 5 good 1 bad 0;");
        CHECK.same("35: without a POOL", y.month(), 0);
    }

    private static void promise36Off() {
        RiskBands x = Check.pooled(THREE);
        Check.sampled(x, "at 5 good 1 bad 0;at 25 good 1 bad 1;");
        x.month();
        Check.sampled(x, "at 999 good 1 bad 0;");
        x.month();
        CHECK.same("36: MONTH 0", x.off(0, 0), 5);
        CHECK.same("36: MONTH 0", x.off(0, 1), 6);
        CHECK.same("36: MONTH 1", x.off(1, 0), 3);
        CHECK.same("36: MONTH 1", x.off(1, 1), 2);
        CHECK.same("36: no such what", x.off(0, 2), NO_SUCH);
        CHECK.same("36: no such what", x.off(0, -1), NO_SUCH);
        CHECK.same("36: no such MONTH", x.off(2, 0), NO_SUCH);
        CHECK.same("36: no such MONTH", x.off(-1, 0), NO_SUCH);
        for (int score = 10; score <= 30; score += 10) {
            x.adds(score, -x.row(0, 1), -x.row(0, 2));
        }
        CHECK.same("36: no CASES", x.off(0, 0), NO_SUCH);
    }

    private static void promise37Share() {
        RiskBands x = Check.pooled(THREE);
        Check.sampled(x, "at 5 good 1 bad 0;at 25 good 1 bad 1;at 15 good 4 bad 0;");
        x.month();
        Check.sampled(x, "");
        CHECK.same("37: BAND 0", x.share(0, 0), 5);
        CHECK.same("37: BAND 1", x.share(0, 1), 2);
        CHECK.same("37: BAND 2", x.share(0, 2), 0);
        CHECK.same("37: no such BAND", x.share(0, 3), -2);
        CHECK.same("37: no such BAND", x.share(0, -1), -2);
        CHECK.same("37: no such MONTH", x.share(1, 0), -2);
        CHECK.same("37: no such MONTH", x.share(-1, 0), -2);
        x.sets(1, 1);
        CHECK.same("37: BANDS as they are", x.share(0, 0), 7);
    }

    private static void promise38Alarm() {
        RiskBands x = Check.pooled(THREE);
        CHECK.same("38: no MONTHS", x.alarm(0), -1);
        Check.sampled(x, "at 10 good 0 bad 2;at 20 good 1 bad 0;at 30 good 1 bad 0;");
        x.month();
        CHECK.same("38: no DRIFT", x.alarm(0), -1);
        Check.sampled(x, "at 10 good 0 bad 1;");
        x.month();
        Check.sampled(x, "at 999 good 1 bad 0;");
        x.month();
        CHECK.same("38: the first", x.alarm(0), 1);
        CHECK.same("38: above", x.alarm(999), 1);
        CHECK.same("38: not above", x.alarm(1000), 2);
        CHECK.same("38: above", x.alarm(1499), 2);
        CHECK.same("38: none", x.alarm(1500), -1);
        CHECK.same("38: none", x.alarm(2000), -1);
        CHECK.same("38: can't be", x.alarm(2001), -2);
        CHECK.same("38: can't be", x.alarm(-1), -2);
        RiskBands one = Check.pooled("at 1 good 1 bad 3;at 2 good 1 bad 0;");
        Check.sampled(one, "at 1 good 1 bad 0;");
        one.month();
        CHECK.same("38: the first of one", one.alarm(0), 0);
        one.adds(2, -1, 0);
        CHECK.same("38: one ROW", one.alarm(0), -1);
        RiskBands y = new RiskBands();
        Check.sampled(y, "at 999 good 1 bad 0;");
        y.month();
        CHECK.same("38: no CASES", y.alarm(0), -1);
        CHECK.same("38: -2 ahead of NONE", y.alarm(-1), -2);
    }

    private static void promise39Rises() {
        RiskBands x = Check.pooled(THREE);
        CHECK.same("39: no MONTHS", x.rises(0), 0);
        // CASES of BAND 0 and of BAND 2: SHARES of BAND 0 1/2, 2/3, 2/3, 3/4, 4/5, 5/6, 1/2, 3/5
        int[][] months = {{1, 1}, {2, 1}, {4, 2}, {3, 1}, {4, 1}, {5, 1}, {9, 9}, {3, 2}};
        int[] due = {0, 1, 1, 1, 2, 3, 3, 3};
        int[] ofTwo = {0, 0, 0, 0, 0, 0, 1, 1};
        for (int i = 0; i < months.length; i++) {
            Check.sampled(x, "at 0 good " + months[i][0] + " bad 0;at 30 good " + months[i][1] + " bad 0;");
            x.month();
            CHECK.same("39: BAND 0 in MONTH " + i, x.rises(0), due[i]);
            CHECK.same("39: BAND 2 in MONTH " + i, x.rises(2), ofTwo[i]);
            CHECK.same("39: BAND 1 in MONTH " + i, x.rises(1), 0);
        }
        CHECK.same("39: no such BAND", x.rises(3), -2);
        CHECK.same("39: no such BAND", x.rises(-1), -2);
        CHECK.same("39: no BANDS", new RiskBands().rises(0), -2);
    }
}
