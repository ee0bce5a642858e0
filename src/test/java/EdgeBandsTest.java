/** The bounds that the document names, sentence by sentence: Terms II, promises 7 to 16, 29 and 31. */
public final class EdgeBandsTest {
    private static final Check CHECK = new Check("edges of bands");
    private static final long NO_SUCH = RiskBands.NO_SUCH;
    // RATES 3/4, 2/4, 1/4, 0
    private static final String FOUR = "at 10 good 1 bad 3;at 20 good 2 bad 2;at 30 good 3 bad 1;at 40 good 4 bad 0;";
    private static final String UNEVEN = "at 1 good 1 bad 3;at 2 good 4 bad 2;at 3 good 2 bad 1;";

    public static void main(String[] args) {
        rows();
        pureBands();
        bandsOfTooFew();
        theFewestIsJoined();
        theNearerNeighbour();
        tooManyBands();
        theCheapestIsJoined();
        bandOfAScore();
        countEdges();
        countFull();
        row();
        bandOfMoreRows();
        band();
        bandOf();
        rate();
        error();
        joint();
        auc();
        ks();
        hull();
        mixed();
        inversions();
        CHECK.closeWith(7, 8, 9, 10, 11, 12, 13, 14, 15, 16, 29, 31);
    }

    // ---- Terms II

    private static void rows() {
        CHECK.says(0, "ROWS: SCORES with any CASES, the least first.");
        RiskBands x = Check.pooled("at 999 good 1 bad 0;at 500 good 0 bad 0;at 0 good 0 bad 1;at 7 good 0 bad 0 open 1;");
        CHECK.same("ROWS", x.count(0), 2);
        CHECK.same("the least", x.row(0, 0), 0);
        CHECK.same("the greatest", x.row(1, 0), 999);
        x.adds(500, 1, 0);
        CHECK.same("between", x.row(1, 0), 500);
        x.adds(0, 0, -1);
        CHECK.same("no CASES any more", x.row(0, 0), 500);
        CHECK.same("ROWS", x.count(0), 2);
    }

    private static void pureBands() {
        CHECK.says(0, "as long as there are two neighbours of which the one of greater SCORES has no lesser RATE, the"
                + " first two such are joined.");
        pureOf("", 0);
        pureOf("at 5 good 3 bad 3;", 1);
        pureOf("at 5 good 3 bad 3;at 6 good 4 bad 4;", 1);
        // 49/98 and 49/99: a lesser one by a little; 50/99: a greater one by a little
        pureOf("at 5 good 49 bad 49;at 6 good 50 bad 49;", 2);
        pureOf("at 5 good 49 bad 49;at 6 good 49 bad 50;", 1);
        pureOf("at 5 good 0 bad 9;at 6 good 0 bad 1;", 1);
        pureOf("at 5 good 9 bad 0;at 6 good 1 bad 0;", 1);
        pureOf("at 5 good 0 bad 1;at 6 good 1 bad 0;", 2);
        pureOf("at 5 good 1 bad 0;at 6 good 0 bad 1;", 1);
        // joined ones are looked at anew: 1/2, then 1/3 by joining 0/2 and 1/1; and 1/3, then 1/3 likewise
        pureOf("at 5 good 1 bad 1;at 6 good 2 bad 0;at 7 good 0 bad 1;", 2);
        pureOf("at 5 good 2 bad 1;at 6 good 2 bad 0;at 7 good 0 bad 1;", 1);
        // all the way back from the last one on
        pureOf("at 1 good 6 bad 4;at 2 good 7 bad 3;at 3 good 8 bad 2;at 4 good 9 bad 1;at 5 good 0 bad 99;", 1);
        pureOf(Check.falling(), 60);
        pureOf(Check.rows(0, 60, "good 99 bad 99"), 1);
    }

    private static void pureOf(String text, int due) {
        RiskBands x = Check.pooled(text);
        CHECK.same("PURE BANDS of " + text, x.count(13), due);
        CHECK.same("BANDS of " + text, x.count(3), due);
    }

    private static void bandsOfTooFew() {
        CHECK.says(0, "as long as there are two at least and one has fewer CASES than LEAST");
        bandsOf("least 4;", 10, 20, 30, 40);
        bandsOf("least 5;", 10, 30);
        bandsOf("least 8;", 10, 30);
        bandsOf("least 9;", 10);
        bandsOf("least 9999;", 10);
        bandsOf("least 1;", 10, 20, 30, 40);
        bandsOf("least 0;", 10, 20, 30, 40);
        CHECK.same("one alone", Check.pooled("at 5 good 1 bad 0;least 9999;").count(3), 1);
        CHECK.same("none", Check.pooled("least 9999;").count(3), 0);
        // PURE BANDS are not joined by it
        CHECK.same("PURE BANDS", Check.pooled(FOUR + "least 9999;most 1;").count(13), 4);
        RiskBands x = Check.pooled(Check.falling() + "least 139;");
        CHECK.same("just as many", x.count(3), 60);
        x.sets(0, 140);
        CHECK.same("one too few", x.count(3), 30);
    }

    /** FOUR and a setting: the least SCORE of each BAND. */
    private static void bandsOf(String setting, int... least) {
        RiskBands x = Check.pooled(FOUR + setting);
        CHECK.same("BANDS by " + setting, x.count(3), least.length);
        for (int k = 0; k < least.length; k++) {
            CHECK.same("band(" + k + ", 0) by " + setting, x.band(k, 0), least[k]);
        }
    }

    private static void theFewestIsJoined() {
        CHECK.says(0, "that with the fewest CASES (of like ones the first) is joined");
        // CASES 3, 3, 2, 1: the last one first, with 30, and none has fewer then; 30 itself would go to 20
        RiskBands x = Check.pooled("at 10 good 0 bad 3;at 20 good 1 bad 2;at 30 good 1 bad 1;at 40 good 1 bad 0;least 3;");
        CHECK.same("BANDS", x.count(3), 3);
        CHECK.same("the fewest", x.band(2, 0), 30);
        // CASES 2, 2, 9: 20, were it first, would go to 30 (1/2 beside 4/9), and 10 could not stay alone
        RiskBands y = Check.pooled("at 10 good 0 bad 2;at 20 good 1 bad 1;at 30 good 5 bad 4;least 3;");
        CHECK.same("BANDS", y.count(3), 2);
        CHECK.same("of like ones the first", y.band(0, 1), 20);
        // CASES 1, 10, 1: the first and the last one have one neighbour
        RiskBands z = Check.pooled("at 10 good 0 bad 1;at 20 good 5 bad 5;at 30 good 1 bad 0;least 2;");
        CHECK.same("both in turn", z.count(3), 1);
        RiskBands first = Check.pooled("at 10 good 0 bad 1;at 20 good 4 bad 5;at 30 good 9 bad 0;least 2;");
        CHECK.same("the first one", first.band(0, 1), 20);
        CHECK.same("the first one", first.count(3), 2);
        RiskBands last = Check.pooled("at 10 good 0 bad 9;at 20 good 4 bad 5;at 30 good 1 bad 0;least 2;");
        CHECK.same("the last one", last.band(1, 0), 20);
        CHECK.same("the last one", last.count(3), 2);
    }

    private static void theNearerNeighbour() {
        CHECK.says(0, "is joined with the neighbour whose RATE is nearer (of like ones the lesser SCORES)");
        // 1/2 of two CASES between 3/4 and 1/4
        CHECK.same("as near", middle("good 1 bad 3", "good 3 bad 1"), 2);
        // between 75/100 and 26/100
        CHECK.same("the greater SCORES", middle("good 25 bad 75", "good 74 bad 26"), 1);
        CHECK.same("the lesser SCORES", middle("good 26 bad 74", "good 75 bad 25"), 2);
        CHECK.same("as near by unlike CASES", middle("good 25 bad 75", "good 3 bad 1"), 2);
        CHECK.same("a little nearer above", middle("good 24 bad 75", "good 74 bad 25"), 1);
        CHECK.same("a little nearer below", middle("good 25 bad 74", "good 75 bad 24"), 2);
    }

    /** How many ROWS the first of two BANDS has, the middle one of three having two CASES alone. */
    private static int middle(String ahead, String behind) {
        RiskBands x = Check.pooled("at 1 " + ahead + ";at 2 good 1 bad 1;at 3 " + behind + ";least 3;");
        CHECK.same("BANDS", x.count(3), 2);
        return x.band(0, 6);
    }

    private static void tooManyBands() {
        CHECK.says(0, "then, as long as there are more than MOST");
        bandsOf("most 60;", 10, 20, 30, 40);
        bandsOf("most 4;", 10, 20, 30, 40);
        bandsOf("most 3;", 10, 30, 40);
        bandsOf("most 2;", 10, 30);
        bandsOf("most 1;", 10);
        CHECK.same("none", Check.pooled("most 1;").count(3), 0);
        CHECK.same("one", Check.pooled("at 5 good 1 bad 1;most 1;").count(3), 1);
        RiskBands x = Check.pooled(Check.falling());
        for (int most : new int[] {60, 59, 2, 1}) {
            x.sets(1, most);
            CHECK.same("BANDS by " + most, x.count(3), most);
        }
        // LEAST comes first: it joins 40 with 30, so that MOST has nothing to join
        RiskBands y = Check.pooled("at 10 good 1 bad 9;at 20 good 5 bad 5;at 30 good 6 bad 4;at 40 good 1 bad 0;most 3;least 2;");
        CHECK.same("LEAST first", y.band(1, 1), 20);
        CHECK.same("LEAST first", y.band(2, 0), 30);
    }

    private static void theCheapestIsJoined() {
        CHECK.says(0, "the two neighbours by whose joining ERROR grows least (of like ones the first) are joined.");
        // RATES 1, 1/2, 0 of four CASES each grow alike; with a CASE less on one side that side grows less
        CHECK.same("of like ones the first", twoOf("good 0 bad 4", "good 2 bad 2", "good 4 bad 0"), 2);
        CHECK.same("the second grows less", twoOf("good 0 bad 4", "good 2 bad 2", "good 3 bad 0"), 1);
        CHECK.same("the first grows less", twoOf("good 0 bad 3", "good 2 bad 2", "good 4 bad 0"), 2);
        CHECK.same("the last two of many", lastTwo(), 59);
        // 1 and 1; 18/17 and 1; 1 and 18/17; 4/3 and 2; 2 and 4/3; 1/3 and 1/2; 1/2 and 1/3; 2 and 18/17
        CHECK.same("1 twice", twoOf("good 0 bad 8", "good 4 bad 4", "good 8 bad 0"), 2);
        CHECK.same("18/17 and 1", twoOf("good 0 bad 9", "good 4 bad 4", "good 8 bad 0"), 1);
        CHECK.same("1 and 18/17", twoOf("good 0 bad 8", "good 4 bad 4", "good 9 bad 0"), 2);
        CHECK.same("4/3 and 2", twoOf("good 0 bad 8", "good 8 bad 8", "good 16 bad 0"), 2);
        CHECK.same("2 and 4/3", twoOf("good 0 bad 16", "good 8 bad 8", "good 8 bad 0"), 1);
        CHECK.same("1/3 and 1/2", twoOf("good 0 bad 2", "good 2 bad 2", "good 4 bad 0"), 2);
        CHECK.same("1/2 and 1/3", twoOf("good 0 bad 4", "good 2 bad 2", "good 2 bad 0"), 1);
        // by a little, of large numbers
        CHECK.same("99 and 98 CASES", twoOf("good 0 bad 99", "good 49 bad 49", "good 98 bad 0"), 1);
        CHECK.same("98 and 99 CASES", twoOf("good 0 bad 98", "good 49 bad 49", "good 99 bad 0"), 2);
        CHECK.same("99 CASES twice", twoOf("good 0 bad 99", "good 49 bad 49", "good 99 bad 0"), 2);
        CHECK.says(0, "They are numbered from 0, the least SCORES first.");
        RiskBands x = Check.pooled(FOUR);
        for (int k = 0; k < 4; k++) {
            CHECK.same("band(" + k + ", 0)", x.band(k, 0), 10 * k + 10);
        }
        CHECK.same("no BAND -1", x.band(-1, 0), -2);
        CHECK.same("no BAND 4", x.band(4, 0), -2);
    }

    private static int twoOf(String first, String second, String third) {
        RiskBands x = Check.pooled("at 1 " + first + ";at 2 " + second + ";at 3 " + third + ";most 2;");
        return x.band(0, 6);
    }

    /** Sixty BANDS, of which the last two have by far the nearest RATES: the least SCORE of the last of 59. */
    private static int lastTwo() {
        StringBuilder text = new StringBuilder();
        for (int i = 0; i < 58; i++) {
            text.append(Check.rows(i, 1, "good " + i + " bad " + (99 - i)));
        }
        text.append(Check.rows(59, 1, "good 98 bad 1")).append(Check.rows(60, 1, "good 99 bad 1")).append("most 59;");
        RiskBands x = Check.pooled(text.toString());
        CHECK.same("PURE BANDS", x.count(13), 60);
        CHECK.same("the one ahead", x.band(57, 6), 1);
        CHECK.same("ROWS", x.band(58, 6), 2);
        return x.band(58, 0);
    }

    private static void bandOfAScore() {
        CHECK.says(0, "The BAND of a SCORE: the last one whose least SCORE is not above it, or the first one.");
        RiskBands x = Check.pooled(FOUR);
        int[][] due = {{0, 0}, {9, 0}, {10, 0}, {19, 0}, {20, 1}, {21, 1}, {29, 1}, {30, 2}, {39, 2}, {40, 3}, {999, 3}};
        for (int[] one : due) {
            CHECK.same("bandOf(" + one[0] + ")", x.bandOf(one[0]), one[1]);
        }
        // a BAND of more ROWS has its least SCORE; what lies between its ROWS belongs to it
        x.sets(1, 2);
        CHECK.same("bandOf(29)", x.bandOf(29), 0);
        CHECK.same("bandOf(30)", x.bandOf(30), 1);
        RiskBands y = Check.pooled("at 0 good 0 bad 1;at 999 good 1 bad 0;");
        CHECK.same("bandOf(0)", y.bandOf(0), 0);
        CHECK.same("bandOf(998)", y.bandOf(998), 0);
        CHECK.same("bandOf(999)", y.bandOf(999), 1);
    }

    // ---- promises

    private static void countEdges() {
        CHECK.says(7, "17 the greatest SCORE of all ROWS (NONE: there are none).");
        CHECK.same("none", new RiskBands().count(17), -1);
        CHECK.same("OPEN ones alone", Check.pooled("at 5 good 0 bad 0 open 1;").count(17), -1);
        CHECK.same("0", Check.pooled("at 0 good 0 bad 1;").count(17), 0);
        RiskBands x = Check.pooled("at 0 good 0 bad 1;at 999 good 1 bad 0;");
        CHECK.same("999", x.count(17), 999);
        x.adds(999, -1, 0);
        CHECK.same("none there any more", x.count(17), 0);
        x.adds(0, 0, -1);
        CHECK.same("none at all", x.count(17), -1);

        CHECK.says(7, "NONE for others.");
        for (RiskBands y : new RiskBands[] {new RiskBands(), Check.pooled(FOUR)}) {
            for (int what : new int[] {-1, 18, -2, 19, Integer.MIN_VALUE, Integer.MAX_VALUE}) {
                CHECK.same("count(" + what + ")", y.count(what), -1);
            }
        }
    }

    private static void countFull() {
        CHECK.says(7, "0 ROWS, 1 GOOD ones, 2 BAD ones, 3 BANDS, 4 LEAST, 5 MOST, 6 .. 8 COSTS, 9 DECISIONS, 10 CASES of"
                + " the SAMPLE, 11 acts that can be undone, 12 bytes of the TAPE, 13 PURE BANDS, 14 OPEN ones, 15 MONTHS,"
                + " 16 bytes of OUT");
        RiskBands x = Check.pooled(Check.rows(940, 60, "good 99 bad 99 open 99") + "least 9999;most 60;cost 999 998 997;");
        Check.sampled(x, Check.rows(940, 60, "good 99 bad 99"));
        for (int i = 0; i < 12; i++) {
            x.month();
        }
        for (int i = 0; i < 40; i++) {
            x.decide(i, 2);
        }
        x.tell();
        for (int i = 0; i < 80; i++) {
            x.feed(0, 0, 0, 0, 0);
        }
        int[] due = {60, 5940, 5940, 1, 9999, 60, 999, 998, 997, 40, 11880, 10, 1600, 1, 5940, 12, 18, 999};
        for (int what = 0; what < due.length; what++) {
            CHECK.same("count(" + what + ")", x.count(what), due[what]);
        }
        RiskBands y = Check.pooled(Check.falling());
        CHECK.same("bytes of OUT", y.tell(), 840);
        CHECK.same("bytes of OUT", y.count(16), 840);
        CHECK.same("BANDS", y.count(3), 60);
        CHECK.same("PURE BANDS", y.count(13), 60);
    }

    private static void row() {
        CHECK.says(8, "Of ROW i (from 0), what 0: its SCORE, 1: GOOD ones, 2: BAD ones, 3: its BAND. -2: there are none such.");
        RiskBands x = Check.pooled(Check.falling());
        CHECK.within("row(i, 0)", 0, 59, -2, i -> x.row(i, 0));
        CHECK.within("row(59, what)", 0, 3, -2, what -> x.row(59, what));
        int[] due = {159, 99, 40, 59};
        for (int what = 0; what < 4; what++) {
            CHECK.same("row(59, " + what + ")", x.row(59, what), due[what]);
        }
        CHECK.same("row(0, 3)", x.row(0, 3), 0);
        RiskBands y = new RiskBands();
        for (int what = -1; what < 5; what++) {
            CHECK.same("of none", y.row(0, what), -2);
        }
        CHECK.same("of one", Check.pooled("at 0 good 0 bad 1;").row(0, 0), 0);
        CHECK.same("of one", Check.pooled("at 0 good 0 bad 1;").row(1, 0), -2);
    }

    private static void bandOfMoreRows() {
        CHECK.says(9, "Of BAND k, what 0: its least SCORE, 1: its greatest one, 2: GOOD ones, 3: BAD ones, 4: RATE, above, 5:"
                + " the lower number (lowest terms), 6: ROWS, 7: CASES of the SAMPLE.");
        // 1; 4/7, 8/10, 8/11 joined to 20/28; 1/10, 2/10 joined to 3/20; 0
        RiskBands x = Check.pooled("at 10 good 0 bad 3;at 20 good 3 bad 4;at 30 good 2 bad 8;at 31 good 3 bad 8;"
                + "at 50 good 9 bad 1;at 60 good 8 bad 2;at 999 good 99 bad 0;");
        Check.sampled(x, "at 9 good 1 bad 0;at 31 good 1 bad 1;at 50 good 2 bad 0;at 998 good 1 bad 1;at 999 good 0 bad 8;");
        isBand(x, 0, 10, 10, 0, 3, 1, 1, 1, 1);
        isBand(x, 1, 20, 31, 8, 20, 5, 7, 3, 2);
        isBand(x, 2, 50, 60, 17, 3, 3, 20, 2, 4);
        isBand(x, 3, 999, 999, 99, 0, 0, 1, 1, 8);
        // the first two are joined, what is behind them moves up
        x.sets(1, 3);
        isBand(x, 0, 10, 31, 8, 23, 23, 31, 4, 3);
        isBand(x, 1, 50, 60, 17, 3, 3, 20, 2, 4);
        isBand(x, 2, 999, 999, 99, 0, 0, 1, 1, 8);
        x.sets(1, 2);
        isBand(x, 0, 10, 31, 8, 23, 23, 31, 4, 3);
        isBand(x, 1, 50, 999, 116, 3, 3, 119, 3, 12);
        x.sets(1, 1);
        isBand(x, 0, 10, 999, 124, 26, 13, 75, 7, 15);
        CHECK.same("no second", x.band(1, 0), -2);
    }

    private static void isBand(RiskBands x, int k, int... due) {
        for (int what = 0; what < 8; what++) {
            CHECK.same("band(" + k + ", " + what + ")", x.band(k, what), due[what]);
        }
    }

    private static void band() {
        CHECK.says(9, "4: RATE, above, 5: the lower number (lowest terms)");
        // 2/4 and 0/4 and 4/4 in lowest terms
        RiskBands x = Check.pooled("at 10 good 0 bad 4;at 20 good 2 bad 2;at 30 good 4 bad 0;");
        int[][] due = {{1, 1}, {1, 2}, {0, 1}};
        for (int k = 0; k < 3; k++) {
            CHECK.same("band(" + k + ", 4)", x.band(k, 4), due[k][0]);
            CHECK.same("band(" + k + ", 5)", x.band(k, 5), due[k][1]);
        }
        RiskBands full = Check.pooled(Check.rows(0, 60, "good 99 bad 98"));
        CHECK.same("above", full.band(0, 4), 98);
        CHECK.same("the lower number", full.band(0, 5), 197);

        CHECK.says(9, "6: ROWS, 7: CASES of the SAMPLE.");
        CHECK.same("ROWS", full.band(0, 6), 60);
        CHECK.same("no SAMPLE", full.band(0, 7), 0);
        Check.sampled(full, Check.rows(900, 60, "good 99 bad 99"));
        CHECK.same("a full SAMPLE", full.band(0, 7), 11880);
        Check.sampled(x, "at 0 good 1 bad 0;at 19 good 2 bad 0;at 20 good 0 bad 4;at 29 good 8 bad 0;at 999 good 16 bad 0;");
        CHECK.same("band(0, 7)", x.band(0, 7), 3);
        CHECK.same("band(1, 7)", x.band(1, 7), 12);
        CHECK.same("band(2, 7)", x.band(2, 7), 16);

        CHECK.says(9, "-2: there are none such.");
        RiskBands y = Check.pooled(Check.falling());
        CHECK.within("band(k, 0)", 0, 59, -2, k -> y.band(k, 0));
        CHECK.within("band(59, what)", 0, 7, -2, what -> y.band(59, what));
        for (int what = -1; what < 9; what++) {
            CHECK.same("of none", new RiskBands().band(0, what), -2);
        }
        y.sets(1, 1);
        CHECK.same("one BAND", y.band(0, 1), 159);
        CHECK.same("no second", y.band(1, 1), -2);
    }

    private static void bandOf() {
        CHECK.says(10, "The BAND of a SCORE. NONE: there are none; -2: it is none (0 .. 999).");
        RiskBands x = Check.pooled(FOUR);
        CHECK.within("bandOf()", 0, 999, -2, score -> x.bandOf(score));
        RiskBands none = Check.pooled("at 5 good 0 bad 0 open 5;");
        CHECK.same("there are none", none.bandOf(0), -1);
        CHECK.same("there are none", none.bandOf(5), -1);
        CHECK.same("there are none", none.bandOf(999), -1);
        CHECK.says(0, "there is no such ROW, BAND, DECISION, what, number as told; ahead of NONE, -5.");
        CHECK.within("bandOf() of none", 0, 999, -2, score -> none.bandOf(score));
    }

    private static void rate() {
        CHECK.says(11, "RATE of a BAND: (double) BAD ones by (double) CASES, as a double's bits (what 0), of that as a"
                + " float (float's bits, 1), of 1000.0 times the RATE its remainder by 1.0 (a double's bits, 2), 1000.0"
                + " times the RATE cut to a whole number (3).");
        // the last two ROWS are one BAND
        RiskBands x = Check.pooled("at 1 good 0 bad 99;at 2 good 1 bad 3;at 3 good 66 bad 33;at 4 good 99 bad 1;at 5 good 98 bad 0;"
                + "at 6 good 1 bad 0;");
        double[] due = {1.0, 0.75, 33.0 / 99.0, 1.0 / 100.0, 0.0};
        for (int k = 0; k < due.length; k++) {
            CHECK.same("rate(" + k + ", 0)", x.rate(k, 0), Check.bits(due[k]));
            CHECK.same("rate(" + k + ", 1)", x.rate(k, 1), Float.floatToIntBits((float) due[k]));
            CHECK.same("rate(" + k + ", 2)", x.rate(k, 2), Check.bits(1000.0 * due[k] % 1.0));
            CHECK.same("rate(" + k + ", 3)", x.rate(k, 3), (long) (1000.0 * due[k]));
        }
        // the least RATE above 0, and the greatest one below 1
        RiskBands low = Check.pooled(Check.rows(0, 59, "good 99 bad 0") + "at 59 good 98 bad 1;");
        CHECK.same("1 of 5940", low.rate(0, 0), Check.bits(1.0 / 5940.0));
        CHECK.same("1 of 5940", low.rate(0, 1), Float.floatToIntBits((float) (1.0 / 5940.0)));
        CHECK.same("1 of 5940", low.rate(0, 2), Check.bits(1000.0 * (1.0 / 5940.0)));
        CHECK.same("1 of 5940", low.rate(0, 3), 0);
        RiskBands high = Check.pooled("at 0 good 1 bad 98;" + Check.rows(1, 59, "good 0 bad 99"));
        CHECK.same("5939 of 5940", high.rate(0, 0), Check.bits(5939.0 / 5940.0));
        CHECK.same("5939 of 5940", high.rate(0, 1), Float.floatToIntBits((float) (5939.0 / 5940.0)));
        CHECK.same("5939 of 5940", high.rate(0, 3), 999);

        CHECK.says(11, "NO_SUCH.");
        CHECK.within("rate(k, 0)", 0, 4, NO_SUCH, k -> x.rate(k, 0));
        CHECK.within("rate(0, what)", 0, 3, NO_SUCH, what -> x.rate(0, what));
        for (int what = -1; what < 5; what++) {
            CHECK.same("of none", new RiskBands().rate(0, what), NO_SUCH);
        }
    }

    private static void error() {
        CHECK.says(12, "ERROR as a double's bits: from 0.0 on, BAND by BAND, (double) (GOOD ones times BAD ones) by (double) its"
                + " CASES is added.");
        CHECK.same("one BAND", Check.pooled("at 1 good 3 bad 4;").error(), Check.bits(12.0 / 7.0));
        CHECK.same("BANDS, not ROWS", Check.pooled("at 1 good 3 bad 4;at 2 good 2 bad 7;").error(), Check.bits(55.0 / 16.0));
        CHECK.same("BANDS, not PURE BANDS", Check.pooled("at 1 good 1 bad 3;at 2 good 2 bad 2;most 1;").error(),
                Check.bits(15.0 / 8.0));
        CHECK.says(12, "from 0.0 on, BAND by BAND");
        CHECK.same("no BAND", new RiskBands().error(), 0);
        CHECK.same("BAD ones, GOOD ones alone", Check.pooled("at 1 good 0 bad 9;at 2 good 9 bad 0;").error(), 0);
        CHECK.same("all of both", Check.pooled(Check.rows(0, 60, "good 99 bad 99")).error(), Check.bits(2970.0));
        RiskBands x = Check.pooled(Check.falling());
        double sum = 0.0;
        for (int i = 0; i < 60; i++) {
            sum = sum + (double) ((40 + i) * (99 - i)) / 139.0;
        }
        CHECK.same("sixty BANDS", x.error(), Check.bits(sum));
        // the order of adding shows in the last bits
        RiskBands y = Check.pooled("at 1 good 1 bad 2;at 2 good 3 bad 4;at 3 good 6 bad 5;");
        CHECK.same("three BANDS", y.error(), Check.bits(2.0 / 3.0 + 12.0 / 7.0 + 30.0 / 11.0));
    }

    private static void joint() {
        CHECK.says(13, "How much ERROR grows by joining BAND k and the next one, as a double's bits: (double) (the square of b m -"
                + " d n) by (double) (n m times n and m together)");
        // n 7, b 5; m 6, d 2: 30 - 14
        CHECK.same("joint(0)", Check.pooled("at 1 good 2 bad 5;at 2 good 4 bad 2;").joint(0),
                Check.bits(256.0 / (42.0 * 13.0)));
        RiskBands four = Check.pooled(FOUR);
        for (int k = 0; k < 3; k++) {
            CHECK.same("joint(" + k + ")", four.joint(k), Check.bits(16.0 / (16.0 * 8.0)));
        }
        four.sets(1, 3);
        // n 8, b 5; m 4, d 1
        CHECK.same("BANDS, not PURE BANDS", four.joint(0), Check.bits(144.0 / (32.0 * 12.0)));
        CHECK.says(13, "n and m being their CASES, b and d their BAD ones. NO_SUCH.");
        RiskBands x = Check.pooled(Check.falling());
        CHECK.within("joint()", 0, 58, NO_SUCH, k -> x.joint(k));
        CHECK.same("joint(58)", x.joint(58), Check.bits(139.0 * 139.0 / (139.0 * 139.0 * 278.0)));
        CHECK.same("one BAND", Check.pooled("at 1 good 1 bad 1;").joint(0), NO_SUCH);
        CHECK.same("none", new RiskBands().joint(0), NO_SUCH);
        CHECK.same("none", new RiskBands().joint(-1), NO_SUCH);
        RiskBands y = Check.pooled("at 1 good 0 bad 1;at 2 good 1 bad 0;");
        CHECK.same("the least two", y.joint(0), Check.bits(0.5));
        CHECK.same("no third", y.joint(1), NO_SUCH);
        // numbers that an int does not hold
        RiskBands z = Check.pooled(Check.rows(0, 30, "good 1 bad 99") + Check.rows(30, 30, "good 99 bad 2"));
        CHECK.same("BANDS", z.count(3), 2);
        long apart = 2970L * 3030L - 60L * 3000L;
        CHECK.same("the greatest", z.joint(0), Check.bits((double) (apart * apart) / (double) (3000L * 3030L * 6030L)));
    }

    private static void auc() {
        CHECK.says(14, "AUC, what 0: above, 1: the lower number (lowest terms).");
        // 1 GOOD one with 3 alike; 4 above 3, with 2 alike; 2 above 5, with 1 alike: 28 1/2 of 42
        RiskBands some = Check.pooled(UNEVEN);
        isFraction("auc()", some.auc(0), some.auc(1), 19, 28);
        CHECK.says(14, "NO_SUCH: there are no GOOD, or no BAD ones; no such what.");
        CHECK.same("none", new RiskBands().auc(0), NO_SUCH);
        CHECK.same("no BAD ones", Check.pooled("at 1 good 99 bad 0;at 2 good 1 bad 0;").auc(0), NO_SUCH);
        CHECK.same("no GOOD ones", Check.pooled("at 1 good 0 bad 99;at 2 good 0 bad 1;").auc(1), NO_SUCH);
        RiskBands x = Check.pooled("at 1 good 0 bad 1;at 2 good 1 bad 0;");
        CHECK.within("auc()", 0, 1, NO_SUCH, what -> x.auc(what));

        CHECK.says(0, "and half of those alike, by all of these twos.");
        isFraction("one above", x.auc(0), x.auc(1), 1, 1);
        RiskBands y = Check.pooled("at 1 good 1 bad 0;at 2 good 0 bad 1;");
        isFraction("one below", y.auc(0), y.auc(1), 0, 1);
        RiskBands z = Check.pooled("at 1 good 1 bad 1;");
        isFraction("one alike", z.auc(0), z.auc(1), 1, 2);
        RiskBands full = Check.pooled(Check.rows(0, 60, "good 99 bad 99"));
        isFraction("all alike", full.auc(0), full.auc(1), 1, 2);
        RiskBands best = Check.pooled(Check.rows(0, 30, "good 0 bad 99") + Check.rows(30, 30, "good 99 bad 0"));
        isFraction("all above", best.auc(0), best.auc(1), 1, 1);
        // 1 GOOD one above 1 of 2 BAD ones, alike with the other: 3/4
        RiskBands w = Check.pooled("at 1 good 0 bad 1;at 2 good 1 bad 1;");
        isFraction("one above, one alike", w.auc(0), w.auc(1), 3, 4);
    }

    private static void isFraction(String call, long above, long below, long dueAbove, long dueBelow) {
        CHECK.same(call + ", above", above, dueAbove);
        CHECK.same(call + ", the lower number", below, dueBelow);
    }

    private static void ks() {
        CHECK.says(15, "KS, what 0: above, 1: the lower number (lowest terms), 2: its SCORE.");
        // 1/7 beside 3/6, then 5/7 beside 5/6
        isKs(Check.pooled(UNEVEN), 5, 14, 1);
        // 1/4 beside 2/4, then 3/4 beside 2/4: the first
        isKs(Check.pooled("at 7 good 1 bad 1;at 8 good 2 bad 0;at 9 good 1 bad 1;"), 1, 4, 7);
        CHECK.says(15, "NO_SUCH likewise.");
        CHECK.same("none", new RiskBands().ks(0), NO_SUCH);
        CHECK.same("no BAD ones", Check.pooled("at 1 good 99 bad 0;").ks(2), NO_SUCH);
        CHECK.same("no GOOD ones", Check.pooled("at 1 good 0 bad 99;").ks(0), NO_SUCH);
        RiskBands x = Check.pooled("at 1 good 1 bad 1;");
        CHECK.within("ks()", 0, 2, NO_SUCH, what -> x.ks(what));

        CHECK.says(0, "the greatest distance of (GOOD ones up to it by all GOOD ones) and (BAD ones up to it by all BAD"
                + " ones); the first SCORE by which it is.");
        isKs(x, 0, 1, 1);
        isKs(Check.pooled("at 0 good 0 bad 1;at 999 good 1 bad 0;"), 1, 1, 0);
        isKs(Check.pooled("at 0 good 1 bad 0;at 999 good 0 bad 1;"), 1, 1, 0);
        isKs(Check.pooled("at 1 good 1 bad 1;at 2 good 0 bad 1;at 999 good 1 bad 0;"), 1, 2, 2);
        // 1/2 by 3, and by 5 on the other side: the first
        isKs(Check.pooled("at 3 good 0 bad 1;at 4 good 2 bad 0;at 5 good 0 bad 0;at 6 good 0 bad 1;"), 1, 2, 3);
        // alike throughout: the first ROW of all
        isKs(Check.pooled("at 5 good 1 bad 2;at 6 good 2 bad 4;"), 0, 1, 5);
        isKs(Check.pooled(Check.rows(0, 60, "good 99 bad 99")), 0, 1, 0);
        isKs(Check.pooled(Check.rows(0, 30, "good 0 bad 99") + Check.rows(30, 30, "good 99 bad 0")), 1, 1, 29);
    }

    private static void isKs(RiskBands x, int above, int below, int score) {
        isFraction("ks()", x.ks(0), x.ks(1), above, below);
        CHECK.same("ks(2)", x.ks(2), score);
    }

    private static void hull() {
        CHECK.says(0, "HULL: below each PURE BAND, and above the last one, how many GOOD, BAD ones there are of lesser"
                + " SCORES; its CORNERS from the first on (none without CASES).");
        RiskBands none = Check.pooled("at 5 good 0 bad 0 open 9;");
        CHECK.same("without CASES", none.hull(0, 0), -1);
        CHECK.same("without CASES", none.hull(0, 1), -1);
        RiskBands one = Check.pooled("at 5 good 3 bad 4;");
        int[] due = {0, 0, 3, 4, -1, -1};
        for (int i = 0; i < 6; i++) {
            CHECK.same("hull(" + i / 2 + ", " + i % 2 + ")", one.hull(i / 2, i % 2), due[i]);
        }
        RiskBands x = Check.pooled(Check.falling() + "most 1;least 9999;");
        CHECK.same("the 60th", x.hull(59, 0), 4170 - 99);
        CHECK.same("the 60th", x.hull(59, 1), 4170 - 40);
        CHECK.same("above the last", x.hull(60, 0), 4170);
        CHECK.same("above the last", x.hull(60, 1), 4170);

        CHECK.says(16, "CORNER i (from 0) of the HULL, what 0: GOOD ones, 1: BAD ones below it.");
        RiskBands four = Check.pooled("at 10 good 0 bad 9;at 20 good 3 bad 4;at 30 good 2 bad 8;at 31 good 3 bad 8;"
                + "at 50 good 9 bad 1;at 60 good 8 bad 2;at 999 good 7 bad 0;least 9999;");
        int[][] corners = {{0, 0}, {0, 9}, {8, 29}, {25, 32}, {32, 32}, {-1, -1}};
        for (int i = 0; i < corners.length; i++) {
            CHECK.same("hull(" + i + ", 0)", four.hull(i, 0), corners[i][0]);
            CHECK.same("hull(" + i + ", 1)", four.hull(i, 1), corners[i][1]);
        }

        CHECK.says(16, "NONE: not so many; -2: i is below 0, no such what.");
        CHECK.same("not so many", x.hull(61, 0), -1);
        CHECK.same("not so many", x.hull(Integer.MAX_VALUE, 1), -1);
        for (RiskBands y : new RiskBands[] {x, one, none}) {
            CHECK.same("below 0", y.hull(-1, 0), -2);
            CHECK.same("below 0", y.hull(Integer.MIN_VALUE, 1), -2);
            CHECK.same("no such what", y.hull(0, -1), -2);
            CHECK.same("no such what", y.hull(0, 2), -2);
            CHECK.same("-2 ahead of NONE", y.hull(99, 2), -2);
            CHECK.same("-2 ahead of NONE", y.hull(99, -1), -2);
        }
    }

    private static void mixed() {
        CHECK.says(0, "straight lines: how many BAD ones (a fraction) are accepted with g GOOD ones, the least of that by"
                + " these lines.");
        RiskBands x = Check.pooled(FOUR + "most 1;");
        // accepted from above: 4 GOOD, 0 BAD; 3, 1; 2, 2; 1, 3
        int[][] due = {{0, 0, 1}, {3, 0, 1}, {4, 0, 1}, {5, 1, 3}, {6, 2, 3}, {7, 1, 1}, {8, 2, 1}, {9, 3, 1}, {10, 6, 1}};
        for (int[] one : due) {
            isFraction("mixed(" + one[0] + ")", x.mixed(one[0], 0), x.mixed(one[0], 1), one[1], one[2]);
        }
        // the first BAND has BAD ones alone: its line goes straight up, of which the least counts
        RiskBands up = Check.pooled("at 1 good 0 bad 5;at 2 good 3 bad 2;");
        isFraction("straight up", up.mixed(3, 0), up.mixed(3, 1), 2, 1);
        isFraction("in lowest terms", up.mixed(0, 0), up.mixed(0, 1), 0, 1);
        // the last one has GOOD ones alone: its line lies flat
        RiskBands flat = Check.pooled("at 1 good 2 bad 1;at 2 good 3 bad 0;");
        isFraction("flat", flat.mixed(3, 0), flat.mixed(3, 1), 0, 1);
        isFraction("one more", flat.mixed(4, 0), flat.mixed(4, 1), 1, 2);
        RiskBands full = Check.pooled(Check.rows(0, 60, "good 99 bad 99"));
        isFraction("all of many", full.mixed(5940, 0), full.mixed(5940, 1), 5940, 1);
        // fewer BANDS than there were
        RiskBands fewer = Check.pooled(FOUR);
        CHECK.same("PURE BANDS", fewer.count(13), 4);
        fewer.adds(40, -4, 0);
        isFraction("without the last", fewer.mixed(3, 0), fewer.mixed(3, 1), 1, 1);
        CHECK.same("no more GOOD ones", fewer.mixed(7, 0), NO_SUCH);

        CHECK.says(29, "MIXED for g GOOD ones (0 .. all), what 0: above, 1: the lower number (lowest terms). NO_SUCH:"
                + " there are no CASES; g can't be; no such what.");
        CHECK.within("mixed(g, 1)", 0, 10, NO_SUCH, g -> x.mixed(g, 1));
        CHECK.within("mixed(0, what)", 0, 1, NO_SUCH, what -> x.mixed(0, what));
        CHECK.within("of sixty ROWS", 0, 5940, NO_SUCH, g -> full.mixed(g, 0));
        RiskBands bad = Check.pooled("at 1 good 0 bad 5;");
        isFraction("no GOOD ones", bad.mixed(0, 0), bad.mixed(0, 1), 0, 1);
        CHECK.same("not one of them", bad.mixed(1, 0), NO_SUCH);
        CHECK.same("no CASES", new RiskBands().mixed(0, 0), NO_SUCH);
        CHECK.same("no CASES", Check.pooled("at 1 good 0 bad 0 open 5;").mixed(0, 1), NO_SUCH);
    }

    private static void inversions() {
        CHECK.says(31, "How many twos of ROWS there are of which the one of greater SCORE has a greater RATE.");
        CHECK.same("no ROW", new RiskBands().inversions(), 0);
        CHECK.same("one ROW", Check.pooled("at 1 good 1 bad 1;").inversions(), 0);
        CHECK.same("like RATES", Check.pooled("at 1 good 1 bad 1;at 2 good 9 bad 9;").inversions(), 0);
        CHECK.same("a little greater", Check.pooled("at 1 good 49 bad 49;at 2 good 49 bad 50;").inversions(), 1);
        CHECK.same("a little lesser", Check.pooled("at 1 good 49 bad 49;at 2 good 50 bad 49;").inversions(), 0);
        CHECK.same("not neighbours", Check.pooled("at 1 good 1 bad 1;at 2 good 1 bad 0;at 3 good 1 bad 3;").inversions(), 2);
        CHECK.same("sixty that fall", Check.pooled(Check.falling()).inversions(), 0);
        StringBuilder rising = new StringBuilder();
        for (int i = 0; i < 60; i++) {
            rising.append(Check.rows(i, 1, "good " + (99 - i) + " bad " + (40 + i)));
        }
        CHECK.same("sixty that rise", Check.pooled(rising.toString()).inversions(), 1770);
    }
}
