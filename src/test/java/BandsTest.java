import java.math.BigInteger;
import java.util.Arrays;
import java.util.Random;

/** Promises 7 to 16, 29 and 31: ROWS, BANDS, RATES, ERROR, AUC, KS, the HULL. */
public final class BandsTest {
    private static final Check CHECK = new Check("bands");
    private static final long NO_SUCH = RiskBands.NO_SUCH;
    // RATES 3/4, 2/4, 2/4, 1/4, 0: PURE BANDS 10; 20, 30; 40; 50
    private static final String FALLING = "at 50 good 4 bad 0;at 40 good 3 bad 1;at 30 good 2 bad 2;"
            + "at 20 good 2 bad 2;at 10 good 1 bad 3;at 60 good 0 bad 0 open 5;";

    public static void main(String[] args) {
        promise7Count();
        promise8Row();
        promise9Band();
        pureBandsJoinBack();
        leastJoinsTheFewest();
        mostJoinsTheCheapest();
        likeGrowthsJoinTheFirst();
        growthsAreComparedExactly();
        joinsShiftAllThatIsTold();
        promise10BandOf();
        promise11Rate();
        promise12Error();
        promise13Joint();
        promise14Auc();
        promise15Ks();
        promise16Hull();
        promise29Mixed();
        promise31Inversions();
        CHECK.close();
    }

    private static void promise7Count() {
        RiskBands x = Check.pooled(FALLING + "least 2;most 59;cost 3 4 6;");
        int[] due = {5, 12, 8, 4, 2, 59, 3, 4, 6, 0, 0, 0, 0, 4, 5, 0, 0, 50, -1};
        for (int what = 0; what < due.length; what++) {
            CHECK.same("7: count(" + what + ")", x.count(what), due[what]);
        }
        CHECK.same("7: no such", x.count(-1), -1);
        x.feed(0, 0, 0, 0, 0);
        CHECK.same("7: bytes of the TAPE", x.count(12), 20);
        x.sets(1, 2);
        CHECK.same("7: BANDS", x.count(3), 2);
        CHECK.same("7: PURE BANDS", x.count(13), 4);
        CHECK.same("7: acts", x.count(11), 1);
    }

    private static void promise8Row() {
        RiskBands x = Check.pooled(FALLING);
        int[][] due = {{10, 1, 3, 0}, {20, 2, 2, 1}, {30, 2, 2, 1}, {40, 3, 1, 2}, {50, 4, 0, 3}};
        for (int i = 0; i < 5; i++) {
            for (int what = 0; what < 4; what++) {
                CHECK.same("8: row(" + i + ", " + what + ")", x.row(i, what), due[i][what]);
            }
        }
        CHECK.same("8: no such", x.row(5, 0), -2);
        CHECK.same("8: no such", x.row(-1, 0), -2);
        CHECK.same("8: no such what", x.row(0, 4), -2);
        CHECK.same("8: no such what", x.row(0, -1), -2);
        CHECK.same("8: of none", new RiskBands().row(0, 0), -2);
    }

    private static void promise9Band() {
        RiskBands x = Check.pooled(FALLING);
        CHECK.same("9: the SAMPLE", Check.sampled(x, "at 0 good 1 bad 0;at 19 good 1 bad 1;at 20 good 0 bad 4;"
                + "at 39 good 5 bad 0;at 50 good 6 bad 0;at 999 good 7 bad 0;"), 25);
        int[][] due = {{10, 10, 1, 3, 3, 4, 1, 3}, {20, 30, 4, 4, 1, 2, 2, 9}, {40, 40, 3, 1, 1, 4, 1, 0},
            {50, 50, 4, 0, 0, 1, 1, 13}};
        for (int k = 0; k < 4; k++) {
            for (int what = 0; what < 8; what++) {
                CHECK.same("9: band(" + k + ", " + what + ")", x.band(k, what), due[k][what]);
            }
        }
        CHECK.same("9: no such", x.band(4, 0), -2);
        CHECK.same("9: no such", x.band(-1, 0), -2);
        CHECK.same("9: no such what", x.band(0, 8), -2);
        CHECK.same("9: no such what", x.band(0, -1), -2);
    }

    private static void pureBandsJoinBack() {
        // 1/2, 0, 1/1: the last is joined with 0, then both with the first (1/3 and then 2/4 against 1/2)
        RiskBands x = Check.pooled("at 1 good 1 bad 1;at 2 good 1 bad 0;at 3 good 0 bad 1;");
        CHECK.same("like RATES are joined", x.count(13), 1);
        RiskBands y = Check.pooled("at 1 good 1 bad 2;at 2 good 1 bad 0;at 3 good 0 bad 1;");
        CHECK.same("a lesser RATE is not", y.count(13), 2);
        CHECK.same("ROWS of the second", y.band(1, 6), 2);
    }

    private static void leastJoinsTheFewest() {
        // CASES 4, 8, 4, 4: the first of the fewest is BAND 0, its one neighbour has 8
        RiskBands x = Check.pooled(FALLING + "least 5;");
        // then 12, 4, 4: BAND 1 (1/4) between 7/12 and 0: 0 is nearer; 12, 8
        CHECK.same("least: BANDS", x.count(3), 2);
        CHECK.same("least: the first", x.band(0, 1), 30);
        CHECK.same("least: the second", x.band(1, 0), 40);
        x.sets(0, 9);
        CHECK.same("least: all", x.count(3), 1);
        x.sets(0, 4);
        CHECK.same("least: none has fewer", x.count(3), 4);
        x.sets(0, 9999);
        CHECK.same("least: one is left", x.count(3), 1);
        // 3/4, 1/2 of two, 1/4: both are as near, so the lesser SCORES
        RiskBands y = Check.pooled("at 1 good 1 bad 3;at 2 good 1 bad 1;at 3 good 3 bad 1;least 3;");
        CHECK.same("least: as near", y.band(0, 1), 2);
        RiskBands z = Check.pooled("at 1 good 1 bad 4;at 2 good 1 bad 1;at 3 good 3 bad 1;least 3;");
        CHECK.same("least: the upper is nearer", z.band(1, 0), 2);
        // the last of all has one neighbour
        RiskBands w = Check.pooled("at 1 good 1 bad 4;at 2 good 3 bad 1;at 3 good 1 bad 0;least 2;");
        CHECK.same("least: the last", w.band(1, 1), 3);
    }

    private static void mostJoinsTheCheapest() {
        // 9/10, 5/10, 4/10, 0/10: growth 16/20, 1/20, 16/20
        RiskBands x = Check.pooled("at 1 good 1 bad 9;at 2 good 5 bad 5;at 3 good 6 bad 4;at 4 good 10 bad 0;most 3;");
        CHECK.same("most: the middle", x.band(1, 6), 2);
        // 9/10, 9/20, 0/10: growth 8100/6000, the same: the first
        x.sets(1, 2);
        CHECK.same("most: of like ones the first", x.band(0, 6), 3);
        x.sets(1, 1);
        CHECK.same("most: one", x.count(3), 1);
        CHECK.same("most: PURE BANDS stay", x.count(13), 4);
        // LEAST comes first, so that MOST has nothing more to join
        RiskBands y = Check.pooled("at 1 good 1 bad 9;at 2 good 5 bad 5;at 3 good 6 bad 4;at 4 good 1 bad 0;most 3;least 2;");
        CHECK.same("least ahead of most", y.band(2, 0), 3);
    }

    private static void likeGrowthsJoinTheFirst() {
        // growths as fractions of unlike terms that are of one size: 1/2, 1/2 (2/4 below)
        RiskBands x = Check.pooled("at 1 good 0 bad 1;at 2 good 1 bad 0;most 1;");
        CHECK.same("two alone", x.count(3), 1);
        // BAD by CASES 4/4, 2/4, 0/4: (16-8)^2/128 both times
        RiskBands y = Check.pooled("at 1 good 0 bad 4;at 2 good 2 bad 2;at 3 good 4 bad 0;most 2;");
        CHECK.same("of like ones the first", y.band(0, 1), 2);
    }

    private static void growthsAreComparedExactly() {
        for (int small = 0; small < 15625; small++) {
            int[] counts = new int[6];
            for (int i = 0, rest = small; i < 6; i++, rest /= 5) {
                counts[i] = rest % 5 * 4;
            }
            growthsOf(counts);
        }
        Random random = new Random(11);
        for (int n = 0; n < 3000; n++) {
            growthsOf(random.ints(6, 0, 100).toArray());
        }
    }

    /** Three ROWS, joined to two BANDS by hand if all three are PURE BANDS. */
    private static void growthsOf(int[] counts) {
        RiskBands x = new RiskBands();
        for (int i = 0; i < 3; i++) {
            x.adds(i, counts[2 * i], counts[2 * i + 1]);
        }
        if (x.count(13) < 3) {
            return;
        }
        x.sets(1, 2);
        BigInteger[] first = growth(counts, 0);
        BigInteger[] second = growth(counts, 2);
        boolean isSecond = second[0].multiply(first[1]).compareTo(first[0].multiply(second[1])) < 0;
        CHECK.same("most 2 of " + Arrays.toString(counts), x.band(0, 6), isSecond ? 1 : 2);
    }

    private static BigInteger[] growth(int[] counts, int from) {
        long n = counts[from] + counts[from + 1];
        long m = counts[from + 2] + counts[from + 3];
        long apart = counts[from + 1] * m - counts[from + 3] * n;
        return new BigInteger[] {BigInteger.valueOf(apart * apart), BigInteger.valueOf(n * m * (n + m))};
    }

    private static void joinsShiftAllThatIsTold() {
        // PURE BANDS of 1, 1, 2 and 1 ROWS, of which MOST joins the first two
        RiskBands x = Check.pooled("at 1 good 1 bad 99;at 2 good 2 bad 98;at 3 good 50 bad 49;at 9 good 49 bad 50;"
                + "at 10 good 99 bad 1;most 3;");
        CHECK.same("joined: BANDS", x.count(3), 3);
        int[][] due = {{1, 2, 3, 197, 2}, {3, 9, 99, 99, 2}, {10, 10, 99, 1, 1}};
        int[] whats = {0, 1, 2, 3, 6};
        for (int k = 0; k < 3; k++) {
            for (int i = 0; i < whats.length; i++) {
                CHECK.same("joined: band(" + k + ", " + whats[i] + ")", x.band(k, whats[i]), due[k][i]);
            }
        }
    }

    private static void promise10BandOf() {
        RiskBands x = Check.pooled(FALLING);
        int[][] due = {{0, 0}, {9, 0}, {10, 0}, {19, 0}, {20, 1}, {39, 1}, {40, 2}, {49, 2}, {50, 3}, {999, 3}};
        for (int[] one : due) {
            CHECK.same("10: bandOf(" + one[0] + ")", x.bandOf(one[0]), one[1]);
        }
        CHECK.same("10: none", x.bandOf(1000), -2);
        CHECK.same("10: none", x.bandOf(-1), -2);
        CHECK.same("10: no BANDS", new RiskBands().bandOf(999), -1);
        CHECK.same("10: -2 ahead of NONE", new RiskBands().bandOf(-1), -2);
    }

    private static void promise11Rate() {
        RiskBands x = Check.pooled("at 1 good 0 bad 7;at 2 good 1 bad 2;at 3 good 6 bad 1;at 4 good 5 bad 0;");
        double[] due = {1.0, 2.0 / 3.0, 1.0 / 7.0, 0.0};
        for (int k = 0; k < 4; k++) {
            CHECK.same("11: rate(" + k + ", 0)", x.rate(k, 0), Check.bits(due[k]));
            CHECK.same("11: rate(" + k + ", 1)", x.rate(k, 1), Float.floatToIntBits((float) due[k]));
            CHECK.same("11: rate(" + k + ", 2)", x.rate(k, 2), Check.bits(1000.0 * due[k] % 1.0));
            CHECK.same("11: rate(" + k + ", 3)", x.rate(k, 3), (long) (1000.0 * due[k]));
        }
        CHECK.same("11: no such", x.rate(4, 0), NO_SUCH);
        CHECK.same("11: no such", x.rate(-1, 0), NO_SUCH);
        CHECK.same("11: no such what", x.rate(0, 4), NO_SUCH);
        CHECK.same("11: no such what", x.rate(0, -1), NO_SUCH);
        for (int bad = 0; bad <= 99; bad++) {
            for (int good = bad == 0 ? 1 : 0; good <= 99; good++) {
                rateOfOne(good, bad);
            }
        }
    }

    private static void rateOfOne(int good, int bad) {
        RiskBands x = new RiskBands();
        x.adds(0, good, bad);
        double rate = (double) bad / (double) (good + bad);
        CHECK.same("11: " + good + ", " + bad, x.rate(0, 0), Check.bits(rate));
        CHECK.same("11: " + good + ", " + bad, x.rate(0, 1), Float.floatToIntBits((float) rate));
        CHECK.same("11: " + good + ", " + bad, x.rate(0, 2), Check.bits(1000.0 * rate % 1.0));
    }

    private static void promise12Error() {
        CHECK.same("12: of none", new RiskBands().error(), 0);
        RiskBands x = Check.pooled(FALLING);
        CHECK.same("12: error()", x.error(), Check.bits(3.0 / 4.0 + 16.0 / 8.0 + 3.0 / 4.0));
        x.sets(1, 1);
        CHECK.same("12: of one BAND", x.error(), Check.bits(96.0 / 20.0));
    }

    private static void promise13Joint() {
        RiskBands x = Check.pooled(FALLING);
        // 3/4 and 4/8: (24 - 16)^2 by 4 8 12
        CHECK.same("13: joint(0)", x.joint(0), Check.bits(64.0 / 384.0));
        // 4/8 and 1/4: (16 - 8)^2 by 8 4 12
        CHECK.same("13: joint(1)", x.joint(1), Check.bits(64.0 / 384.0));
        CHECK.same("13: joint(2)", x.joint(2), Check.bits(16.0 / 128.0));
        CHECK.same("13: the last has no next", x.joint(3), NO_SUCH);
        CHECK.same("13: no such", x.joint(-1), NO_SUCH);
        CHECK.same("13: no such", x.joint(Integer.MAX_VALUE), NO_SUCH);
        CHECK.same("13: no such", new RiskBands().joint(0), NO_SUCH);
    }

    private static void promise14Auc() {
        // twos 2 3: GOOD at 5 above both at 1 (2), alike at 5 (1 half); GOOD at 1: 2 halves alike
        RiskBands x = Check.pooled("at 1 good 1 bad 2;at 5 good 1 bad 1;");
        CHECK.same("14: above", x.auc(0), 7);
        CHECK.same("14: lower", x.auc(1), 12);
        RiskBands worst = Check.pooled("at 1 good 3 bad 0;at 5 good 0 bad 1;");
        CHECK.same("14: none", worst.auc(0), 0);
        CHECK.same("14: none", worst.auc(1), 1);
        RiskBands first = Check.pooled("at 1 good 0 bad 4;at 5 good 3 bad 0;");
        CHECK.same("14: all", first.auc(0), 1);
        CHECK.same("14: all", first.auc(1), 1);
        CHECK.same("14: no such what", x.auc(2), NO_SUCH);
        CHECK.same("14: no such what", x.auc(-1), NO_SUCH);
        CHECK.same("14: no BAD ones", Check.pooled("at 1 good 1 bad 0;").auc(0), NO_SUCH);
        CHECK.same("14: no GOOD ones", Check.pooled("at 1 good 0 bad 1;").auc(0), NO_SUCH);
    }

    private static void promise15Ks() {
        // up to 1: 1/4, 2/4; to 2: 1/4, 3/4; to 3: 3/4, 3/4; to 4: 1, 1
        RiskBands x = Check.pooled("at 1 good 1 bad 2;at 2 good 0 bad 1;at 3 good 2 bad 0;at 4 good 1 bad 1;");
        CHECK.same("15: above", x.ks(0), 1);
        CHECK.same("15: lower", x.ks(1), 2);
        CHECK.same("15: SCORE", x.ks(2), 2);
        // GOOD ones first: the sign does not matter; like ones: the first
        RiskBands y = Check.pooled("at 7 good 2 bad 0;at 8 good 0 bad 4;at 9 good 2 bad 0;");
        CHECK.same("15: without a sign", y.ks(0), 1);
        CHECK.same("15: lower", y.ks(1), 2);
        CHECK.same("15: the first", y.ks(2), 7);
        RiskBands z = Check.pooled("at 7 good 2 bad 3;");
        CHECK.same("15: none", z.ks(0), 0);
        CHECK.same("15: none", z.ks(1), 1);
        CHECK.same("15: none", z.ks(2), 7);
        CHECK.same("15: no such what", x.ks(3), NO_SUCH);
        CHECK.same("15: no such what", x.ks(-1), NO_SUCH);
        CHECK.same("15: no BAD ones", Check.pooled("at 1 good 1 bad 0;").ks(2), NO_SUCH);
        CHECK.same("15: no GOOD ones", Check.pooled("at 1 good 0 bad 1;").ks(0), NO_SUCH);
    }

    private static void promise16Hull() {
        RiskBands x = Check.pooled(FALLING + "most 1;");
        int[][] due = {{0, 0}, {1, 3}, {5, 7}, {8, 8}, {12, 8}};
        for (int i = 0; i < 5; i++) {
            CHECK.same("16: hull(" + i + ", 0)", x.hull(i, 0), due[i][0]);
            CHECK.same("16: hull(" + i + ", 1)", x.hull(i, 1), due[i][1]);
        }
        CHECK.same("16: not so many", x.hull(5, 0), -1);
        CHECK.same("16: below 0", x.hull(-1, 0), -2);
        CHECK.same("16: no such what", x.hull(0, 2), -2);
        CHECK.same("16: -2 ahead of NONE", x.hull(99, -1), -2);
        CHECK.same("16: without CASES", new RiskBands().hull(0, 1), -1);
    }

    private static void promise29Mixed() {
        RiskBands x = Check.pooled(FALLING);
        // from above: 4 GOOD, 0 BAD; then 3, 1; then 4, 4; then 1, 3
        long[][] due = {{0, 0, 1}, {4, 0, 1}, {5, 1, 3}, {7, 1, 1}, {8, 2, 1}, {11, 5, 1}, {12, 8, 1}};
        for (long[] one : due) {
            CHECK.same("29: mixed(" + one[0] + ", 0)", x.mixed((int) one[0], 0), one[1]);
            CHECK.same("29: mixed(" + one[0] + ", 1)", x.mixed((int) one[0], 1), one[2]);
        }
        CHECK.same("29: too many", x.mixed(13, 0), NO_SUCH);
        CHECK.same("29: below 0", x.mixed(-1, 0), NO_SUCH);
        CHECK.same("29: no such what", x.mixed(0, 2), NO_SUCH);
        CHECK.same("29: no CASES", new RiskBands().mixed(0, 0), NO_SUCH);
        // the first BAND has no GOOD ones: a line straight up, of which the least counts
        RiskBands y = Check.pooled("at 1 good 0 bad 5;at 2 good 3 bad 2;");
        CHECK.same("29: straight up", y.mixed(3, 0), 2);
        CHECK.same("29: BAD ones alone", Check.pooled("at 1 good 0 bad 5;").mixed(0, 0), 0);
        CHECK.same("29: BAD ones alone", Check.pooled("at 1 good 0 bad 5;").mixed(0, 1), 1);
    }

    private static void promise31Inversions() {
        CHECK.same("31: of none", new RiskBands().inversions(), 0);
        // RATES 1/2, 0, 2/4, 1/3: twos 1/2 over 0, 1/3 over 0
        RiskBands x = Check.pooled("at 1 good 1 bad 1;at 2 good 5 bad 0;at 3 good 2 bad 2;at 4 good 2 bad 1;");
        CHECK.same("31: inversions()", x.inversions(), 2);
        CHECK.same("31: one", Check.pooled("at 1 good 3 bad 2;at 2 good 2 bad 3;").inversions(), 1);
        CHECK.same("31: all", Check.pooled("at 1 good 4 bad 1;at 2 good 2 bad 3;at 3 good 0 bad 1;").inversions(), 3);
        CHECK.same("31: like RATES", Check.pooled("at 1 good 2 bad 1;at 2 good 4 bad 2;").inversions(), 0);
    }
}
