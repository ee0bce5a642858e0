import java.util.function.Supplier;

/** The bounds that the document names, sentence by sentence: ADVICE, INFERRED, Terms V, promises 40 to 52. */
public final class EdgeActsTest {
    private static final Check CHECK = new Check("edges of acts");
    private static final String SIXTY = Check.rows(0, 60, "good 1 bad 0");
    // best two CUTS 201, 301
    private static final String ADVISED = "at 100 good 1 bad 4;at 200 good 3 bad 3;at 300 good 6 bad 2;at 999 good 9 bad 0;"
            + "cost 20 300 11;";

    public static void main(String[] args) {
        tell();
        octet();
        open();
        inferredOnes();
        infer();
        inferRefused();
        decide();
        advice();
        decision();
        outcome();
        overrides();
        learn();
        learnRefused();
        adds();
        addsRefused();
        sets();
        costs();
        undo();
        actsThatChangedSomething();
        oneByOne();
        theLatestTen();
        notTheSample();
        numbersUsedAgain();
        manyCalls();
        CHECK.closeWith(40, 41, 42, 43, 44, 45, 46, 47, 48, 49, 50, 51, 52);
    }

    // ---- OUT

    private static void tell() {
        CHECK.says(40, "BANDS are told in OUT: of each its least SCORE, -, its greatest one, a blank, GOOD ones, a blank,"
                + " BAD ones, ; : how many bytes.");
        isOut(new RiskBands(), "");
        isOut(Check.pooled("at 5 good 0 bad 0 open 5;"), "");
        isOut(Check.pooled("at 0 good 0 bad 1;"), "0-0 0 1;");
        isOut(Check.pooled("at 9 good 0 bad 9;at 10 good 10 bad 9;at 99 good 99 bad 10;at 100 good 99 bad 0;"),
                "9-9 0 9;10-10 10 9;99-99 99 10;100-100 99 0;");
        isOut(Check.pooled("at 999 good 99 bad 99;"), "999-999 99 99;");
        isOut(Check.pooled("at 9 good 5 bad 99;at 10 good 4 bad 99;"), "9-10 9 198;");
        isOut(Check.pooled(Check.rows(940, 60, "good 99 bad 99")), "940-999 5940 5940;");
        isOut(Check.pooled(Check.rows(0, 10, "good 99 bad 10")), "0-9 990 100;");
        isOut(Check.pooled(Check.rows(0, 11, "good 91 bad 9")), "0-10 1001 99;");
        RiskBands x = Check.pooled(Check.falling());
        CHECK.same("sixty BANDS", x.tell(), 840);
        x.sets(1, 1);
        isOut(x, "100-159 4170 4170;");
        x.sets(1, 2);
        CHECK.same("OUT stays", x.count(16), 18);
    }

    private static void isOut(RiskBands x, String due) {
        CHECK.same("tell()", x.tell(), due.length());
        CHECK.same("count(16)", x.count(16), due.length());
        CHECK.text("OUT", Check.outOf(x), due);
    }

    private static void octet() {
        CHECK.says(41, "Byte i of OUT (as tell() left it last; at first it has none). NONE: there is none such.");
        RiskBands x = Check.pooled(Check.falling());
        CHECK.same("at first", x.octet(0), -1);
        x.tell();
        CHECK.within("octet()", 0, 839, -1, i -> x.octet(i));
        CHECK.same("the first", x.octet(0), '1');
        CHECK.same("the last", x.octet(839), ';');
        x.sets(1, 1);
        CHECK.same("as tell() left it", x.octet(839), ';');
        x.tell();
        CHECK.same("the last of fewer", x.octet(17), ';');
        CHECK.same("none behind it", x.octet(18), -1);
        CHECK.same("none behind it", x.octet(839), -1);
        x.undo();
        CHECK.text("undo() leaves it", Check.outOf(x), "100-159 4170 4170;");
        x.pool();
        CHECK.text("pool() leaves it", Check.outOf(x), "100-159 4170 4170;");
        x.tell();
        CHECK.same("no BANDS", x.octet(0), -1);
        CHECK.same("of a new object", new RiskBands().octet(0), -1);
    }

    // ---- OPEN ones

    private static void open() {
        CHECK.says(42, "OPEN ones of a SCORE. -2: it is none.");
        RiskBands x = Check.pooled("at 0 good 0 bad 1 open 99;at 999 good 0 bad 0 open 1;at 5 good 1 bad 1;");
        CHECK.within("open()", 0, 999, -2, score -> x.open(score));
        CHECK.same("0", x.open(0), 99);
        CHECK.same("999", x.open(999), 1);
        CHECK.same("none", x.open(5), 0);
        CHECK.same("no ROW", x.open(6), 0);
        CHECK.within("open() of a new object", 0, 999, -2, score -> new RiskBands().open(score));
        x.infer(0);
        CHECK.same("no more", x.open(0) + x.open(999), 0);
    }

    private static void inferredOnes() {
        CHECK.says(0, "so many of them (cut, no more than there are) are BAD as they are, times m times BAD ones of the BAND"
                + " of that SCORE, by 100 times its CASES; the others are GOOD (BANDS as they are ahead of all).");
        // 5 of RATE 3/4: by 100 3.75, by 80 3, by 79 2.96, by 26 0.975, by 27 1.01, by 133 4.98, by 134 5.02
        int[][] due = {{0, 0}, {26, 0}, {27, 1}, {79, 2}, {80, 3}, {100, 3}, {133, 4}, {134, 5}, {160, 5}, {1000, 5}};
        for (int[] one : due) {
            RiskBands x = Check.pooled("at 10 good 1 bad 3 open 5;");
            CHECK.same("infer(" + one[0] + ")", x.infer(one[0]), 5);
            CHECK.same("BAD ones by " + one[0], x.row(0, 2), 3 + one[1]);
            CHECK.same("GOOD ones by " + one[0], x.row(0, 1), 1 + 5 - one[1]);
        }
        // no BAD ones in the BAND; all of them
        RiskBands good = Check.pooled("at 10 good 1 bad 0 open 99;");
        good.adds(10, -1, 0);
        CHECK.same("no CASES", good.infer(100), -5);
        good.adds(10, 0, 1);
        good.adds(10, 0, -1);
        good.adds(11, 1, 0);
        CHECK.same("of GOOD ones", good.infer(1000), 99);
        CHECK.same("all GOOD", good.row(0, 1), 99);
        RiskBands bad = Check.pooled("at 10 good 0 bad 0 open 99;at 11 good 0 bad 1;");
        CHECK.same("of BAD ones", bad.infer(100), 99);
        CHECK.same("all BAD", bad.row(0, 2), 99);
        // BANDS by SCORE: below the first, between, above the last; LEAST and MOST count
        String text = "at 10 good 1 bad 3;at 20 good 3 bad 1;at 0 good 0 bad 0 open 4;at 19 good 0 bad 0 open 8;"
                + "at 21 good 0 bad 0 open 4;at 999 good 0 bad 0 open 8;";
        isInferred(Check.pooled(text), new int[][] {{0, 1, 3}, {10, 1, 3}, {19, 2, 6}, {20, 3, 1}, {21, 3, 1}, {999, 6, 2}});
        isInferred(Check.pooled(text + "most 1;"),
                new int[][] {{0, 2, 2}, {10, 1, 3}, {19, 4, 4}, {20, 3, 1}, {21, 2, 2}, {999, 4, 4}});
        // as they are ahead of all: what comes to 10 does not count for 11, which is of the same BAND
        isInferred(Check.pooled("at 10 good 1 bad 1 open 3;at 11 good 0 bad 0 open 3;"), new int[][] {{10, 3, 2}, {11, 2, 1}});
        // the largest products: 99 times 1000 times 5841
        RiskBands large = Check.pooled(Check.rows(0, 59, "good 0 bad 99") + "at 999 good 0 bad 0 open 99;");
        CHECK.same("infer(1000)", large.infer(1000), 99);
        CHECK.same("all BAD", large.row(59, 2), 99);
    }

    /** By 100 of 100: SCORE, GOOD ones, BAD ones of each ROW. */
    private static void isInferred(RiskBands x, int[][] due) {
        x.infer(100);
        CHECK.same("ROWS", x.count(0), due.length);
        for (int i = 0; i < due.length; i++) {
            for (int what = 0; what < 3; what++) {
                CHECK.same("row(" + i + ", " + what + ")", x.row(i, what), due[i][what]);
            }
        }
    }

    private static void infer() {
        CHECK.says(43, "All OPEN ones are INFERRED by m (0 .. 1000) of 100, and are OPEN no more: how many.");
        RiskBands x = Check.pooled("at 10 good 1 bad 1 open 1;at 999 good 0 bad 0 open 99;");
        CHECK.same("how many", x.infer(1), 100);
        CHECK.same("OPEN no more", x.count(14), 0);
        CHECK.same("none", x.infer(1), 0);
        x.undo();
        CHECK.same("as they were", x.count(14), 100);
        CHECK.same("as it was", x.open(10), 1);
        CHECK.same("as it was", x.open(999), 99);
        CHECK.same("once more", x.infer(0), 100);
        RiskBands full = Check.pooled(Check.rows(0, 60, "good 1 bad 0 open 98"));
        CHECK.same("all of sixty", full.infer(1000), 5880);
        CHECK.same("GOOD ones", full.count(1), 5940);
        CHECK.says(43, "there are no CASES (of none: 0 ahead of that); -2: m can't be.");
        CHECK.same("no CASES, none", new RiskBands().infer(0), 0);
        CHECK.same("no CASES, none", new RiskBands().infer(1000), 0);
        CHECK.same("-2 ahead of 0", new RiskBands().infer(1001), -2);
        CHECK.same("-2 ahead of 0", new RiskBands().infer(-1), -2);
        Supplier<RiskBands> none = () -> Check.pooled("at 5 good 0 bad 0 open 1;");
        CHECK.refused("no CASES", none, y -> y.infer(100), -5);
        CHECK.refused("no CASES, m can't be", none, y -> y.infer(1001), -2);
        CHECK.refused("no CASES, m can't be", none, y -> y.infer(-1), -2);
        CHECK.within("infer()", 0, 1000, -2, m -> Check.pooled("at 5 good 1 bad 1 open 3;").infer(m));
        for (int m : new int[] {-1, 1001, Integer.MIN_VALUE, Integer.MAX_VALUE}) {
            CHECK.refused("infer(" + m + ")", () -> Check.pooled("at 5 good 1 bad 1 open 3;"), y -> y.infer(m), -2);
        }
    }

    private static void inferRefused() {
        CHECK.says(43, "-5: a count would be above 99, there would be a 61st ROW");
        CHECK.same("99 GOOD ones", Check.pooled("at 5 good 98 bad 0 open 1;").infer(100), 1);
        CHECK.refused("100 GOOD ones", () -> Check.pooled("at 5 good 98 bad 0 open 2;at 10 good 1 bad 0 open 5;"),
                x -> x.infer(100), -5);
        CHECK.same("99 BAD ones", Check.pooled("at 5 good 0 bad 98 open 1;").infer(100), 1);
        CHECK.refused("100 BAD ones", () -> Check.pooled("at 1 good 0 bad 1 open 5;at 5 good 0 bad 98 open 2;"),
                x -> x.infer(100), -5);
        CHECK.refused("of a full one", () -> Check.pooled("at 5 good 99 bad 99 open 1;"), x -> x.infer(100), -5);
        CHECK.same("99 OPEN ones of no ROW", Check.pooled("at 5 good 0 bad 0 open 99;at 6 good 1 bad 0;").infer(100), 99);
        Supplier<RiskBands> sixty = () -> {
            RiskBands x = Check.pooled(Check.rows(0, 59, "good 1 bad 0") + "at 500 good 0 bad 0 open 1;");
            x.adds(999, 1, 0);
            return x;
        };
        CHECK.refused("a 61st ROW", sixty, x -> x.infer(100), -5);
        RiskBands x = sixty.get();
        x.undo();
        CHECK.same("a 60th ROW", x.infer(100), 1);
        CHECK.same("ROWS", x.count(0), 60);
        CHECK.same("sixty ROWS of their own", Check.pooled(Check.rows(0, 60, "good 1 bad 0 open 1")).infer(100), 60);
    }

    // ---- DECISIONS

    private static RiskBands decided(int many) {
        RiskBands x = Check.pooled("at 5 good 1 bad 1;");
        for (int i = 0; i < many; i++) {
            x.decide(i, i % 3);
        }
        return x;
    }

    private static void decide() {
        CHECK.says(44, "A DECISION about a SCORE (choice 0 declined, 1 referred, 2 accepted): its number. -5: there are 40;"
                + " -2: there are none such.");
        CHECK.within("decide(score, 0)", 0, 999, -2, score -> decided(1).decide(score, 0));
        CHECK.within("decide(0, choice)", 0, 2, -2, choice -> decided(1).decide(0, choice));
        RiskBands x = new RiskBands();
        for (int i = 0; i < 40; i++) {
            CHECK.same("its number", x.decide(999 - i, i % 3), i);
        }
        CHECK.same("a 41st", x.decide(0, 0), -5);
        CHECK.same("-2 ahead of -5", x.decide(1000, 0), -2);
        CHECK.same("-2 ahead of -5", x.decide(0, 3), -2);
        CHECK.same("the first", x.decision(0, 0), 999);
        CHECK.same("the last", x.decision(39, 0), 960);
        x.undo();
        CHECK.same("the 40th again", x.decide(7, 1), 39);
        CHECK.refused("a 41st", () -> decided(40), y -> y.decide(0, 0), -5);
        CHECK.refused("a 41st, no SCORE", () -> decided(40), y -> y.decide(1000, 0), -2);
        CHECK.refused("no SCORE", () -> decided(3), y -> y.decide(-1, 0), -2);
        CHECK.refused("no choice", () -> decided(3), y -> y.decide(0, 3), -2);
        CHECK.refused("no choice", () -> decided(3), y -> y.decide(0, -1), -2);
    }

    private static void advice() {
        CHECK.says(0, "ADVICE for a SCORE: declined 0, referred 1, accepted 2, by the best two CUTS, as it was when the"
                + " DECISION came.");
        RiskBands x = Check.pooled(ADVISED);
        int[][] due = {{0, 0}, {200, 0}, {201, 1}, {300, 1}, {301, 2}, {999, 2}};
        for (int i = 0; i < due.length; i++) {
            x.decide(due[i][0], 0);
            CHECK.same("ADVICE for " + due[i][0], x.decision(i, 2), due[i][1]);
        }
        // all would be accepted now; what was advised stays
        x.costs(1, 0, 1);
        x.decide(0, 0);
        for (int i = 0; i < due.length; i++) {
            CHECK.same("ADVICE " + i + " as it was", x.decision(i, 2), due[i][1]);
        }
        CHECK.same("ADVICE now", x.decision(6, 2), 2);
        RiskBands none = new RiskBands();
        none.decide(0, 0);
        CHECK.same("no CASES", none.decision(0, 2), 2);
        // declining costs nothing, so that c is 1000
        RiskBands all = Check.pooled("at 999 good 0 bad 9;");
        all.decide(999, 2);
        CHECK.same("c", all.two(0), 1000);
        CHECK.same("all declined", all.decision(0, 2), 0);
    }

    private static void decision() {
        CHECK.says(45, "Of a DECISION, what 0: its SCORE, 1: choice, 2: ADVICE, 3: its OUTCOME (0 GOOD, 1 BAD; NONE), 4: 1 if"
                + " it is LEARNT, else 0. -2: there are none such.");
        RiskBands x = decided(40);
        CHECK.within("decision(i, 0)", 0, 39, -2, i -> x.decision(i, 0));
        CHECK.within("decision(1, what)", 0, 4, -2, what -> x.decision(1, what));
        CHECK.same("of none", new RiskBands().decision(0, 0), -2);
        CHECK.same("no OUTCOME", x.decision(1, 3), -1);
        x.outcome(1, 0);
        x.outcome(2, 1);
        CHECK.same("GOOD", x.decision(1, 3), 0);
        CHECK.same("BAD", x.decision(2, 3), 1);
        CHECK.same("not LEARNT", x.decision(1, 4) + x.decision(2, 4), 0);
        x.learn();
        CHECK.same("LEARNT", x.decision(1, 4) + x.decision(2, 4), 2);
        CHECK.same("the OUTCOME stays", x.decision(2, 3), 1);
        CHECK.same("another", x.decision(4, 4), 0);
    }

    private static void outcome() {
        CHECK.says(46, "The OUTCOME (0, 1) of a DECISION that did not decline: 0. -5: it declined, has one; -2: there are"
                + " none such.");
        CHECK.within("outcome(1, bad)", 0, 1, -2, bad -> decided(3).outcome(1, bad));
        CHECK.within("outcome(i, 0)", 0, 2, -2, i -> decided(3).outcome(i, 0));
        CHECK.same("referred", decided(3).outcome(1, 1), 0);
        CHECK.same("accepted", decided(3).outcome(2, 0), 0);
        CHECK.refused("it declined", () -> decided(3), x -> x.outcome(0, 0), -5);
        CHECK.refused("it declined", () -> decided(3), x -> x.outcome(0, 1), -5);
        CHECK.refused("it declined, no such OUTCOME", () -> decided(3), x -> x.outcome(0, 2), -2);
        CHECK.refused("it declined, no such OUTCOME", () -> decided(3), x -> x.outcome(0, -1), -2);
        Supplier<RiskBands> one = () -> {
            RiskBands x = decided(3);
            x.outcome(2, 1);
            return x;
        };
        CHECK.refused("it has the same", one, x -> x.outcome(2, 1), -5);
        CHECK.refused("it has another", one, x -> x.outcome(2, 0), -5);
        CHECK.refused("it has one, no such OUTCOME", one, x -> x.outcome(2, 2), -2);
        CHECK.refused("no such DECISION", one, x -> x.outcome(3, 0), -2);
        CHECK.refused("no such DECISION", one, x -> x.outcome(-1, 0), -2);
        CHECK.refused("of none", RiskBands::new, x -> x.outcome(0, 0), -2);
        Supplier<RiskBands> learnt = () -> {
            RiskBands x = one.get();
            x.learn();
            return x;
        };
        CHECK.refused("it is LEARNT", learnt, x -> x.outcome(2, 0), -5);
        RiskBands x = one.get();
        x.undo();
        CHECK.same("undone, another", x.outcome(2, 0), 0);
        CHECK.same("GOOD", x.decision(2, 3), 0);
    }

    private static void overrides() {
        CHECK.says(47, "How many DECISIONS there are, what 0: above ADVICE, 1: below, 2: above with a BAD OUTCOME, 3: with an"
                + " OUTCOME that are not LEARNT. -2: no such what.");
        RiskBands x = Check.pooled(ADVISED);
        CHECK.within("overrides()", 0, 3, -2, what -> x.overrides(what));
        CHECK.same("of none", x.overrides(0) + x.overrides(1) + x.overrides(2) + x.overrides(3), 0);
        // each choice beside each ADVICE
        for (int i = 0; i < 9; i++) {
            x.decide(i / 3 == 0 ? 200 : i / 3 == 1 ? 300 : 301, i % 3);
        }
        isOverridden(x, 3, 3, 0, 0);
        x.outcome(1, 1);
        x.outcome(2, 0);
        isOverridden(x, 3, 3, 1, 2);
        x.outcome(5, 1);
        x.outcome(4, 1);
        x.outcome(7, 1);
        isOverridden(x, 3, 3, 2, 5);
        x.learn();
        isOverridden(x, 3, 3, 2, 0);
        x.outcome(8, 1);
        isOverridden(x, 3, 3, 2, 1);
        x.undo();
        x.undo();
        isOverridden(x, 3, 3, 2, 5);
        RiskBands full = new RiskBands();
        for (int i = 0; i < 40; i++) {
            full.decide(0, 1);
            full.outcome(i, 1);
        }
        isOverridden(full, 0, 40, 0, 40);
    }

    private static void isOverridden(RiskBands x, int... due) {
        for (int what = 0; what < 4; what++) {
            CHECK.same("overrides(" + what + ")", x.overrides(what), due[what]);
        }
    }

    /** DECISIONS about one SCORE that accept, each with a GOOD (0) or BAD (1) OUTCOME. */
    private static RiskBands ended(String pool, int score, int... outcomes) {
        RiskBands x = Check.pooled(pool);
        for (int i = 0; i < outcomes.length; i++) {
            x.decide(score, 2);
            x.outcome(i, outcomes[i]);
        }
        return x;
    }

    private static void learn() {
        CHECK.says(48, "All CASES with an OUTCOME that are not LEARNT come into the POOL: how many.");
        CHECK.same("no DECISIONS", new RiskBands().learn(), 0);
        CHECK.same("no OUTCOMES", decided(40).learn(), 0);
        RiskBands x = ended("", 999, 0, 1, 1);
        x.decide(0, 1);
        CHECK.same("three", x.learn(), 3);
        CHECK.same("ROWS", x.count(0), 1);
        CHECK.same("SCORE", x.row(0, 0), 999);
        CHECK.same("GOOD ones", x.row(0, 1), 1);
        CHECK.same("BAD ones", x.row(0, 2), 2);
        CHECK.same("none more", x.learn(), 0);
        x.outcome(3, 0);
        CHECK.same("the last", x.learn(), 1);
        CHECK.same("at its SCORE", x.row(0, 0), 0);
        int[] good = new int[40];
        RiskBands full = ended("", 0, good);
        CHECK.same("all of 40", full.learn(), 40);
        CHECK.same("GOOD ones", full.count(1), 40);
        CHECK.same("undone", full.undo(), 9);
        CHECK.same("no GOOD ones", full.count(1), 0);
        CHECK.same("none is LEARNT", full.overrides(3), 40);
        CHECK.same("all of 40 again", full.learn(), 40);
    }

    private static void learnRefused() {
        CHECK.says(48, "-5: a count would be above 99, there would be a 61st ROW.");
        CHECK.same("99 GOOD ones", ended("at 5 good 97 bad 99;", 5, 0, 0).learn(), 2);
        CHECK.refused("100 GOOD ones", () -> ended("at 5 good 97 bad 99;", 5, 0, 0, 0), x -> x.learn(), -5);
        CHECK.same("99 BAD ones", ended("at 5 good 99 bad 97;", 5, 1, 1).learn(), 2);
        CHECK.refused("100 BAD ones", () -> ended("at 5 good 99 bad 97;", 5, 1, 1, 1), x -> x.learn(), -5);
        CHECK.refused("one of two", () -> ended("at 5 good 50 bad 99;", 5, 0, 1), x -> x.learn(), -5);
        CHECK.refused("a 61st ROW", () -> ended(SIXTY, 60, 1), x -> x.learn(), -5);
        CHECK.same("one of the sixty", ended(SIXTY, 59, 1).learn(), 1);
        RiskBands x = ended(Check.rows(0, 59, "good 1 bad 0"), 999, 1);
        CHECK.same("a 60th ROW", x.learn(), 1);
        CHECK.same("ROWS", x.count(0), 60);
        // once there is room, all of them come
        RiskBands y = ended("at 5 good 98 bad 0;", 5, 0, 0);
        CHECK.same("too many", y.learn(), -5);
        y.adds(5, -1, 0);
        CHECK.same("room", y.learn(), 2);
        CHECK.same("GOOD ones", y.count(1), 99);
    }

    // ---- counts that change

    private static RiskBands fives() {
        RiskBands x = Check.pooled("at 5 good 50 bad 49 open 3;");
        x.adds(6, 1, 0);
        x.sets(0, 3);
        return x;
    }

    private static void adds() {
        CHECK.says(49, "So many GOOD, BAD ones more (-99 .. 99; fewer below 0) at a SCORE: 1 if any, else 0.");
        RiskBands x = new RiskBands();
        CHECK.same("none", x.adds(0, 0, 0), 0);
        CHECK.same("99 of both", x.adds(0, 99, 99), 1);
        CHECK.same("GOOD ones", x.row(0, 1), 99);
        CHECK.same("BAD ones", x.row(0, 2), 99);
        CHECK.same("99 fewer of both", x.adds(0, -99, -99), 1);
        CHECK.same("no ROW", x.count(0), 0);
        CHECK.same("one GOOD", x.adds(999, 1, 0), 1);
        CHECK.same("one BAD", x.adds(999, 0, 1), 1);
        CHECK.same("one fewer, one more", x.adds(999, -1, 1), 1);
        CHECK.same("GOOD ones", x.row(0, 1), 0);
        CHECK.same("BAD ones", x.row(0, 2), 2);
        CHECK.same("none", x.adds(999, 0, 0), 0);
        CHECK.same("acts", x.count(11), 5);
        RiskBands y = fives();
        CHECK.same("OPEN ones stay", y.open(5), 3);
        y.adds(5, -50, -49);
        CHECK.same("OPEN ones stay", y.open(5), 3);
    }

    private static void addsRefused() {
        CHECK.says(49, "-5: a count would not be 0 .. 99, there would be a 61st ROW; -2: there are none such.");
        int[][] inside = {{5, 49, 0}, {5, -50, 0}, {5, 0, 50}, {5, 0, -49}, {7, 99, 99}, {5, 49, 50}, {5, -50, -49}};
        for (int[] one : inside) {
            CHECK.same("adds(" + one[0] + ", " + one[1] + ", " + one[2] + ")", fives().adds(one[0], one[1], one[2]), 1);
        }
        int[][] outside = {{5, 50, 0}, {5, -51, 0}, {5, 0, 51}, {5, 0, -50}, {7, -1, 0}, {7, 0, -1}, {5, 50, 1},
            {5, 1, 51}, {5, 1, -50}, {7, 99, -99}, {6, -2, 1}};
        for (int[] one : outside) {
            CHECK.refused("adds(" + one[0] + ", " + one[1] + ", " + one[2] + ")", EdgeActsTest::fives,
                    x -> x.adds(one[0], one[1], one[2]), -5);
        }
        int[][] none = {{-1, 0, 0}, {1000, 0, 0}, {-1, 1, 1}, {1000, 1, 1}, {5, 100, 0}, {5, -100, 0}, {5, 0, 100},
            {5, 0, -100}, {1000, 100, 100}, {Integer.MIN_VALUE, 1, 1}, {Integer.MAX_VALUE, 1, 1}, {5, Integer.MIN_VALUE, 0},
            {5, 0, Integer.MAX_VALUE}};
        for (int[] one : none) {
            CHECK.refused("adds(" + one[0] + ", " + one[1] + ", " + one[2] + ")", EdgeActsTest::fives,
                    x -> x.adds(one[0], one[1], one[2]), -2);
        }
        CHECK.refused("a 61st ROW", () -> Check.pooled(SIXTY), x -> x.adds(60, 1, 0), -5);
        CHECK.refused("a 61st ROW", () -> Check.pooled(SIXTY), x -> x.adds(999, 0, 1), -5);
        CHECK.same("none at a 61st", Check.pooled(SIXTY).adds(60, 0, 0), 0);
        CHECK.same("one of the sixty", Check.pooled(SIXTY).adds(59, 98, 99), 1);
        RiskBands x = Check.pooled(SIXTY);
        x.adds(0, -1, 0);
        CHECK.same("a 60th", x.adds(60, 0, 1), 1);
        CHECK.same("a 61st again", x.adds(0, 1, 0), -5);
        CHECK.same("OPEN ones are no ROWS", Check.pooled(Check.rows(0, 60, "good 0 bad 0 open 1")).adds(60, 1, 0), 1);
    }

    private static void sets() {
        CHECK.says(50, "LEAST (what 0: 0 .. 9999), MOST (1: 1 .. 60): what it was. -2: there are none such.");
        CHECK.within("sets(0, v)", 0, 9999, -2, v -> new RiskBands().sets(0, v));
        CHECK.within("sets(1, v)", 1, 60, -2, v -> new RiskBands().sets(1, v));
        CHECK.within("sets(what, 1)", 0, 1, -2, what -> new RiskBands().sets(what, 1));
        RiskBands x = new RiskBands();
        int[][] due = {{0, 9999, 1}, {0, 0, 9999}, {0, 0, 0}, {1, 1, 60}, {1, 60, 1}, {1, 60, 60}, {0, 60, 0}, {1, 2, 60}};
        for (int[] one : due) {
            CHECK.same("sets(" + one[0] + ", " + one[1] + ")", x.sets(one[0], one[1]), one[2]);
            CHECK.same("it is now", x.count(4 + one[0]), one[1]);
        }
        CHECK.same("acts", x.count(11), 6);
        int[][] none = {{0, -1}, {0, 10000}, {1, 0}, {1, 61}, {-1, 5}, {2, 5}, {Integer.MAX_VALUE, 5}, {Integer.MIN_VALUE, 5}};
        for (int[] one : none) {
            CHECK.refused("sets(" + one[0] + ", " + one[1] + ")", EdgeActsTest::fives, y -> y.sets(one[0], one[1]), -2);
        }
    }

    private static void costs() {
        CHECK.says(51, "COSTS (0 .. 999 each): 1 if any is another one, else 0. -2: there are none such.");
        for (int i = 0; i < 3; i++) {
            int at = i;
            CHECK.within("COST " + i, 0, 999, -2, v -> set(new RiskBands(), at, v));
            for (int v : new int[] {-1, 1000}) {
                CHECK.refused("COST " + i + " of " + v, EdgeActsTest::fives, x -> set(x, at, v), -2);
            }
            RiskBands x = new RiskBands();
            CHECK.same("COST " + i + " alone", set(x, i, 7), 1);
            for (int k = 0; k < 3; k++) {
                CHECK.same("COST " + k, x.count(6 + k), k == i ? 7 : k == 1 ? 5 : 1);
            }
            CHECK.same("once more", set(x, i, 7), 0);
            CHECK.same("one act", x.count(11), 1);
        }
        RiskBands y = new RiskBands();
        CHECK.same("as they are", y.costs(1, 5, 1), 0);
        CHECK.same("no act", y.count(11), 0);
        CHECK.same("all others", y.costs(0, 999, 0), 1);
        CHECK.same("one act", y.count(11), 1);
    }

    /** One COST alone is set; the others are as in a new object. */
    private static int set(RiskBands x, int which, int v) {
        return x.costs(which == 0 ? v : 1, which == 1 ? v : 5, which == 2 ? v : 1);
    }

    // ---- Terms V

    private static void undo() {
        CHECK.says(52, "The latest act is undone: how many can be. NONE: none.");
        CHECK.refused("of a new object", RiskBands::new, x -> x.undo(), -1);
        CHECK.refused("behind pool()", () -> Check.pooled(ADVISED), x -> x.undo(), -1);
        RiskBands x = new RiskBands();
        x.adds(5, 1, 0);
        CHECK.same("one", x.undo(), 0);
        CHECK.same("none", x.undo(), -1);
        CHECK.text("as it was", Look.at(x), Look.at(new RiskBands()));
        RiskBands y = new RiskBands();
        y.adds(5, 1, 0);
        y.adds(5, 2, 0);
        CHECK.same("two", y.undo(), 1);
        CHECK.same("the latest one", y.count(1), 1);
        y.adds(5, 4, 0);
        CHECK.same("another in its place", y.count(11), 2);
        y.undo();
        CHECK.same("it alone", y.count(1), 1);
        y.undo();
        CHECK.same("all", y.count(1), 0);
    }

    private static void actsThatChangedSomething() {
        CHECK.says(0, "ACTS: adds(), sets(), costs(), decide(), outcome(), learn(), infer() that changed something.");
        Supplier<RiskBands> start = () -> {
            RiskBands x = Check.pooled("at 5 good 3 bad 4 open 2;at 6 good 0 bad 0 open 1;");
            x.decide(5, 2);
            x.outcome(0, 1);
            return x;
        };
        isUndone("adds()", start, x -> x.adds(7, 1, 2));
        isUndone("adds() of fewer", start, x -> x.adds(5, -3, -4));
        isUndone("sets() of LEAST", start, x -> x.sets(0, 7));
        isUndone("sets() of MOST", start, x -> x.sets(1, 7));
        isUndone("costs()", start, x -> x.costs(1, 5, 2));
        isUndone("decide()", start, x -> x.decide(5, 0));
        isUndone("learn()", start, x -> x.learn());
        isUndone("infer()", start, x -> x.infer(100));
        isUndone("outcome()", () -> {
            RiskBands x = start.get();
            x.decide(9, 1);
            return x;
        }, x -> x.outcome(1, 0));
        // those that change nothing are no acts
        CHECK.refused("adds(5, 0, 0)", start, x -> x.adds(5, 0, 0), 0);
        CHECK.refused("sets(0, 1)", start, x -> x.sets(0, 1), 1);
        CHECK.refused("sets(1, 60)", start, x -> x.sets(1, 60), 60);
        CHECK.refused("costs(1, 5, 1)", start, x -> x.costs(1, 5, 1), 0);
        CHECK.refused("learn()", () -> decided(5), x -> x.learn(), 0);
        CHECK.refused("infer(100)", () -> decided(5), x -> x.infer(100), 0);
    }

    private interface Act {
        long on(RiskBands x);
    }

    private static void isUndone(String name, Supplier<RiskBands> start, Act act) {
        RiskBands x = start.get();
        int acts = x.count(11);
        act.on(x);
        CHECK.same(name + " is an act", x.count(11), acts + 1);
        CHECK.same(name + " is undone", x.undo(), acts);
        CHECK.text(name + " leaves", Look.at(x), Look.at(start.get()));
        // once more, behind its undoing, it does the same
        RiskBands y = start.get();
        act.on(y);
        y.undo();
        long again = act.on(y);
        RiskBands z = start.get();
        CHECK.same(name + " once more", again, act.on(z));
        CHECK.text(name + " once more", Look.at(y), Look.at(z));
    }

    /** Each two of them, one behind the other: the latest alone is undone, then the one ahead. */
    private static void oneByOne() {
        CHECK.says(0, "can be undone one by one (DECISIONS, OUTCOMES, too");
        Supplier<RiskBands> start = () -> {
            RiskBands x = Check.pooled("at 5 good 3 bad 4 open 2;at 6 good 0 bad 0 open 1;");
            for (int i = 0; i < 4; i++) {
                x.decide(5 + i, 2);
            }
            x.outcome(0, 1);
            return x;
        };
        Act[] acts = {x -> x.adds(5, 1, -2), x -> x.sets(0, 7), x -> x.sets(1, 1), x -> x.costs(2, 3, 4),
            x -> x.decide(9, 1), x -> x.outcome(1, 0), x -> x.outcome(2, 1), x -> x.learn(), x -> x.infer(100)};
        for (int i = 0; i < acts.length; i++) {
            for (int k = 0; k < acts.length; k++) {
                if (i == k) {
                    continue;
                }
                RiskBands x = start.get();
                acts[i].on(x);
                String first = Look.at(x);
                x = start.get();
                acts[i].on(x);
                acts[k].on(x);
                CHECK.same("undo() of " + k, x.undo(), 6);
                CHECK.text("act " + k + " behind act " + i + ", undone", Look.at(x), first);
            }
        }
    }

    private static void theLatestTen() {
        CHECK.says(0, "The latest 10 can be undone one by one");
        for (int many = 9; many <= 12; many++) {
            RiskBands x = new RiskBands();
            for (int i = 0; i < many; i++) {
                x.adds(i, 1, 0);
            }
            int undone = Math.min(many, 10);
            CHECK.same("acts of " + many, x.count(11), undone);
            for (int left = undone - 1; left >= 0; left--) {
                CHECK.same("undo() of " + many, x.undo(), left);
                CHECK.same("acts", x.count(11), left);
                CHECK.same("ROWS", x.count(0), many - undone + left);
            }
            CHECK.same("no more", x.undo(), -1);
            CHECK.same("the oldest stay", x.count(0), many - undone);
        }
        // each kind as the oldest of ten can be undone, as the eleventh it can't
        for (int more = 9; more <= 10; more++) {
            RiskBands x = Check.pooled("at 5 good 3 bad 4 open 2;");
            x.infer(0);
            for (int i = 0; i < more; i++) {
                x.adds(9, 1, 0);
            }
            for (int i = 0; i < 10; i++) {
                x.undo();
            }
            CHECK.same("infer() ahead of " + more, x.open(5), more == 9 ? 2 : 0);
            CHECK.same("GOOD ones", x.row(0, 1), more == 9 ? 3 : 5);
        }
        for (int more = 9; more <= 10; more++) {
            RiskBands x = ended("", 5, 1);
            x.learn();
            for (int i = 0; i < more; i++) {
                x.adds(9, 1, 0);
            }
            for (int i = 0; i < 10; i++) {
                x.undo();
            }
            CHECK.same("learn() ahead of " + more, x.decision(0, 4), more == 9 ? 0 : 1);
            CHECK.same("BAD ones", x.count(2), more == 9 ? 0 : 1);
        }
        // each has what it changed by itself, behind an eleventh, too
        RiskBands unlike = new RiskBands();
        for (int i = 0; i < 12; i++) {
            unlike.adds(i, i + 1, 3 * i + 2);
        }
        for (int left = 11; left >= 2; left--) {
            unlike.undo();
            CHECK.same("ROWS", unlike.count(0), left);
            CHECK.same("GOOD ones", unlike.count(1), left * (left + 1) / 2);
            CHECK.same("BAD ones", unlike.count(2), 3 * left * (left - 1) / 2 + 2 * left);
        }
        RiskBands settings = new RiskBands();
        for (int i = 0; i < 12; i++) {
            if (i % 3 == 2) {
                settings.costs(i, 2 * i, 3 * i);
            } else {
                settings.sets(i % 3, 40 - i);
            }
        }
        // LEAST, MOST, COSTS behind each undo(): the first two acts, LEAST 40, MOST 39, stay
        int[][] due = {{31, 30, 8}, {31, 33, 8}, {34, 33, 8}, {34, 33, 5}, {34, 36, 5}, {37, 36, 5}, {37, 36, 2},
            {37, 39, 2}, {40, 39, 2}, {40, 39, 1}};
        for (int i = 0; i < due.length; i++) {
            CHECK.same("undo()", settings.undo(), 9 - i);
            CHECK.same("LEAST", settings.count(4), due[i][0]);
            CHECK.same("MOST", settings.count(5), due[i][1]);
            CHECK.same("COST of GOOD ones", settings.count(6), due[i][2]);
            CHECK.same("COST of BAD ones", settings.count(7), i == 9 ? 5 : 2 * due[i][2]);
            CHECK.same("COST of referred ones", settings.count(8), i == 9 ? 1 : 3 * due[i][2]);
        }
        // one undone makes room for one
        RiskBands y = new RiskBands();
        for (int i = 0; i < 11; i++) {
            y.adds(i, 1, 0);
        }
        y.undo();
        y.sets(0, 5);
        CHECK.same("ten again", y.count(11), 10);
        for (int i = 9; i >= 0; i--) {
            CHECK.same("undo()", y.undo(), i);
        }
        CHECK.same("LEAST", y.count(4), 1);
        CHECK.same("ROWS", y.count(0), 1);
    }

    private static void notTheSample() {
        CHECK.says(0, "(DECISIONS, OUTCOMES, too; not the SAMPLE, MONTHS).");
        RiskBands x = Check.pooled("at 5 good 3 bad 4;");
        x.decide(5, 2);
        Check.sampled(x, "at 5 good 1 bad 1;");
        x.outcome(0, 1);
        x.month();
        x.adds(5, 1, 0);
        Check.sampled(x, "at 5 good 2 bad 1;");
        x.month();
        x.tell();
        x.feed(1, 2, 3, 4, 5);
        CHECK.same("acts", x.count(11), 3);
        x.undo();
        CHECK.same("the OUTCOME is there", x.decision(0, 3), 1);
        x.undo();
        CHECK.same("no OUTCOME", x.decision(0, 3), -1);
        CHECK.same("the DECISION is there", x.count(9), 1);
        x.undo();
        CHECK.same("no DECISION", x.count(9), 0);
        CHECK.same("the SAMPLE", x.count(10), 3);
        CHECK.same("MONTHS", x.count(15), 2);
        CHECK.same("MONTH 0", x.share(0, 0), 2);
        CHECK.same("MONTH 1", x.share(1, 0), 3);
        CHECK.same("OUT", x.count(16), 8);
        CHECK.same("the TAPE", x.count(12), 20);
        CHECK.same("ADVICE of none", x.decision(0, 2), -2);
    }

    private static void numbersUsedAgain() {
        CHECK.says(44, "its number.");
        RiskBands x = Check.pooled("at 5 good 1 bad 1;");
        x.decide(5, 2);
        x.outcome(0, 1);
        x.learn();
        for (int i = 0; i < 3; i++) {
            x.undo();
        }
        CHECK.same("the same number", x.decide(7, 1), 0);
        int[] due = {7, 1, 2, -1, 0};
        for (int what : new int[] {0, 1, 3, 4}) {
            CHECK.same("decision(0, " + what + ")", x.decision(0, what), due[what]);
        }
        CHECK.same("nothing to be LEARNT", x.overrides(3), 0);
        CHECK.same("nothing to be LEARNT", x.learn(), 0);
        // what is LEARNT stays, whatever number the OUTCOME that is undone has
        RiskBands z = Check.pooled("");
        for (int i = 0; i < 6; i++) {
            z.decide(i, 2);
        }
        z.outcome(0, 0);
        CHECK.same("the first alone", z.learn(), 1);
        z.outcome(5, 1);
        CHECK.same("the last alone", z.learn(), 1);
        for (int i = 1; i < 5; i++) {
            CHECK.same("outcome()", z.outcome(i, 0), 0);
            z.undo();
            CHECK.same("both LEARNT", z.decision(0, 4) * 10 + z.decision(5, 4), 11);
            CHECK.same("both in the POOL", z.count(1) * 10 + z.count(2), 11);
            CHECK.same("no OUTCOME", z.decision(i, 3), -1);
        }
        // two learn() one behind the other, the latest of which is undone and done again
        RiskBands y = ended("", 5, 0);
        y.learn();
        y.decide(6, 2);
        y.outcome(1, 0);
        y.learn();
        y.undo();
        CHECK.same("the latest alone", y.decision(0, 4) * 10 + y.decision(1, 4), 10);
        CHECK.same("it again", y.learn(), 1);
        CHECK.same("ROWS", y.count(0), 2);
        CHECK.same("CASES", y.count(1), 2);
    }

    private static void manyCalls() {
        CHECK.says("What it is", "An object is used for at most 512 calls after it has been made");
        RiskBands x = new RiskBands();
        for (int i = 0; i < 255; i++) {
            CHECK.same("adds() " + i, x.adds(i, 1, 0), 1);
            CHECK.same("undo() " + i, x.undo(), 0);
        }
        CHECK.same("call 511", x.adds(999, 7, 0), 1);
        CHECK.same("call 512", x.count(1), 7);
        // made by five calls
        RiskBands y = ended("", 5, 0);
        for (int i = 0; i < 253; i++) {
            CHECK.same("learn() " + i, y.learn(), 1);
            CHECK.same("undo() " + i, y.undo(), 2);
        }
        CHECK.same("call 512", y.learn(), 1);
    }
}
