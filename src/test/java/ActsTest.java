/** Promises 40 to 52: OUT, OPEN ones, DECISIONS, counts that change, and undoing all of that. */
public final class ActsTest {
    private static final Check CHECK = new Check("acts");

    public static void main(String[] args) {
        promise40Tell();
        promise41Octet();
        promise42Open();
        promise43Infer();
        promise43Refused();
        promise44Decide();
        promise45Decision();
        promise46Outcome();
        promise47Overrides();
        promise48Learn();
        promise48Refused();
        promise49Adds();
        promise50Sets();
        promise51Costs();
        promise52Undo();
        promise52EachAct();
        promise52RefusedAreNoActs();
        CHECK.close();
    }

    private static String sixty(String counts) {
        StringBuilder text = new StringBuilder();
        for (int i = 0; i < 60; i++) {
            text.append("at ").append(i).append(counts);
        }
        return text.toString();
    }

    private static void promise40Tell() {
        RiskBands x = Check.pooled("at 0 good 0 bad 9;at 7 good 5 bad 99;at 999 good 99 bad 0;at 998 good 99 bad 0;");
        CHECK.same("40: bytes", x.tell(), 8 + 9 + 14);
        CHECK.text("40: OUT", Check.outOf(x), "0-0 0 9;7-7 5 99;998-999 198 0;");
        RiskBands y = Check.pooled(sixty(" good 99 bad 99;"));
        CHECK.same("40: large counts", y.tell(), 15);
        CHECK.text("40: OUT", Check.outOf(y), "0-59 5940 5940;");
        StringBuilder text = new StringBuilder();
        StringBuilder due = new StringBuilder();
        for (int i = 0; i < 60; i++) {
            text.append(String.format("at%dgood%dbad%d;", i * 10, i, 99 - i));
            due.append(String.format("%d-%d %d %d;", i * 10, i * 10, i, 99 - i));
        }
        RiskBands z = Check.pooled(text.toString());
        CHECK.same("40: sixty BANDS", z.tell(), due.length());
        // of each object no more bytes than it has calls
        CHECK.text("40: OUT", Check.outOf(z, 0, 400), due.substring(0, 400));
        RiskBands again = Check.pooled(text.toString());
        again.tell();
        CHECK.text("40: OUT", Check.outOf(again, 400, due.length()), due.substring(400));
        CHECK.same("40: none", new RiskBands().tell(), 0);
    }

    private static void promise41Octet() {
        RiskBands x = Check.pooled("at 12 good 3 bad 4;");
        CHECK.same("41: at first none", x.octet(0), -1);
        x.tell();
        x.adds(12, 1, 0);
        CHECK.text("41: as tell() left it", Check.outOf(x), "12-12 3 4;");
        CHECK.same("41: below 0", x.octet(-1), -1);
        CHECK.same("41: the last", x.octet(9), ';');
        CHECK.same("41: behind it", x.octet(10), -1);
        x.adds(12, -4, -4);
        CHECK.same("41: no BANDS", x.tell(), 0);
        CHECK.same("41: none left", x.octet(0), -1);
    }

    private static void promise42Open() {
        RiskBands x = Check.pooled("at 0 good 3 bad 4 open 99;at 999 good 0 bad 0 open 1;at 5 good 1 bad 1;");
        CHECK.same("42: 0", x.open(0), 99);
        CHECK.same("42: 999", x.open(999), 1);
        CHECK.same("42: none", x.open(5), 0);
        CHECK.same("42: no ROW", x.open(6), 0);
        CHECK.same("42: no SCORE", x.open(1000), -2);
        CHECK.same("42: no SCORE", x.open(-1), -2);
    }

    private static void promise43Infer() {
        // BANDS 10 (3/4) and 20 (1/4)
        String text = "at 10 good 1 bad 3 open 5;at 20 good 3 bad 1 open 7;at 5 good 0 bad 0 open 2;at 30 good 0 bad 0 open 0;";
        RiskBands x = Check.pooled(text);
        CHECK.same("43: how many", x.infer(100), 14);
        // 5 * 3/4 = 3.75; 7/4 = 1.75; 2 * 3/4 = 1.5
        int[][] due = {{5, 1, 1}, {10, 3, 6}, {20, 9, 2}};
        for (int i = 0; i < 3; i++) {
            for (int what = 0; what < 3; what++) {
                CHECK.same("43: row(" + i + ", " + what + ")", x.row(i, what), due[i][what]);
            }
        }
        CHECK.same("43: OPEN no more", x.count(14), 0);
        CHECK.same("43: ROWS", x.count(0), 3);
        CHECK.same("43: none now", x.infer(100), 0);
        CHECK.same("43: one act", x.count(11), 1);
        x.undo();
        CHECK.same("43: undone", x.open(20), 7);
        CHECK.same("43: undone", x.count(0), 2);
        CHECK.same("43: by 1000", x.infer(1000), 14);
        CHECK.same("43: no more than there are", x.row(1, 2), 8);
        CHECK.same("43: no fewer GOOD ones", x.row(1, 1), 1);
        x.undo();
        CHECK.same("43: by 0", x.infer(0), 14);
        CHECK.same("43: all GOOD", x.row(1, 1), 6);
        x.undo();
        CHECK.same("43: can't be", x.infer(1001), -2);
        CHECK.same("43: can't be", x.infer(-1), -2);
        CHECK.same("43: nothing changed", x.count(14), 14);
    }

    private static void promise43Refused() {
        CHECK.same("43: of none", new RiskBands().infer(0), 0);
        CHECK.same("43: -2 ahead of 0", new RiskBands().infer(-1), -2);
        CHECK.same("43: no CASES", Check.pooled("at 1 good 0 bad 0 open 1;").infer(100), -5);
        RiskBands x = Check.pooled("at 1 good 90 bad 90 open 19;at 2 good 0 bad 0 open 3;");
        CHECK.same("43: 99 BAD ones, 100 GOOD ones", x.infer(100), -5);
        CHECK.same("43: nothing changed", x.open(1), 19);
        CHECK.same("43: nothing changed", x.open(2), 3);
        CHECK.same("43: nothing changed", x.row(0, 1) + x.row(0, 2), 180);
        CHECK.same("43: no act", x.count(11), 0);
        CHECK.same("43: 100 BAD ones", x.infer(120), -5);
        RiskBands y = Check.pooled("at 1 good 90 bad 90 open 18;");
        CHECK.same("43: 99 of both", y.infer(100), 18);
        RiskBands z = Check.pooled(sixty(" good 1 bad 0;").replace("at 59 good 1 bad 0;", "at 59 good 0 bad 0 open 1;"));
        z.adds(500, 1, 0);
        CHECK.same("43: a 61st ROW", z.infer(100), -5);
        z.undo();
        CHECK.same("43: a 60th", z.infer(100), 1);
        CHECK.same("43: ROWS", z.count(0), 60);
    }

    private static void promise44Decide() {
        RiskBands x = new RiskBands();
        CHECK.same("44: no such SCORE", x.decide(1000, 0), -2);
        CHECK.same("44: no such SCORE", x.decide(-1, 0), -2);
        CHECK.same("44: no such choice", x.decide(0, 3), -2);
        CHECK.same("44: no such choice", x.decide(0, -1), -2);
        for (int i = 0; i < 40; i++) {
            CHECK.same("44: number", x.decide(i, i % 3), i);
        }
        CHECK.same("44: there are 40", x.decide(0, 0), -5);
        CHECK.same("44: -2 ahead of -5", x.decide(0, 3), -2);
        CHECK.same("44: DECISIONS", x.count(9), 40);
        x.undo();
        CHECK.same("44: room again", x.decide(0, 0), 39);
    }

    private static void promise45Decision() {
        // best two CUTS 201, 301
        RiskBands x = Check.pooled("at 100 good 1 bad 4;at 200 good 3 bad 3;at 300 good 6 bad 2;at 999 good 9 bad 0;"
                + "cost 20 300 11;");
        int[][] due = {{200, 1, 0, -1, 0}, {201, 2, 1, -1, 0}, {300, 0, 1, -1, 0}, {301, 2, 2, -1, 0}};
        for (int i = 0; i < 4; i++) {
            x.decide(due[i][0], due[i][1]);
            for (int what = 0; what < 5; what++) {
                CHECK.same("45: decision(" + i + ", " + what + ")", x.decision(i, what), due[i][what]);
            }
        }
        x.costs(0, 1, 1);
        CHECK.same("45: as it was when it came", x.decision(3, 2), 2);
        CHECK.same("45: no such", x.decision(4, 0), -2);
        CHECK.same("45: no such", x.decision(-1, 0), -2);
        CHECK.same("45: no such what", x.decision(0, 5), -2);
        CHECK.same("45: no such what", x.decision(0, -1), -2);
    }

    private static void promise46Outcome() {
        RiskBands x = new RiskBands();
        x.decide(5, 0);
        x.decide(5, 1);
        x.decide(5, 2);
        CHECK.same("46: it declined", x.outcome(0, 0), -5);
        CHECK.same("46: referred", x.outcome(1, 0), 0);
        CHECK.same("46: accepted", x.outcome(2, 1), 0);
        CHECK.same("46: GOOD", x.decision(1, 3), 0);
        CHECK.same("46: BAD", x.decision(2, 3), 1);
        CHECK.same("46: it has one", x.outcome(1, 1), -5);
        CHECK.same("46: as it was", x.decision(1, 3), 0);
        CHECK.same("46: no such", x.outcome(3, 0), -2);
        CHECK.same("46: no such", x.outcome(-1, 0), -2);
        CHECK.same("46: -2 ahead of -5", x.outcome(0, 2), -2);
        CHECK.same("46: no such", x.outcome(1, -1), -2);
    }

    private static void promise47Overrides() {
        // all below 6 declined, all from there on accepted
        RiskBands x = Check.pooled("at 5 good 0 bad 9;at 6 good 9 bad 0;");
        CHECK.same("47: the CUTS", x.two(0) * 1000 + x.two(1), 6006);
        int[][] told = {{5, 0}, {5, 1}, {5, 2}, {6, 0}, {6, 1}, {6, 2}, {5, 2}};
        for (int[] one : told) {
            x.decide(one[0], one[1]);
        }
        x.outcome(1, 0);
        x.outcome(2, 1);
        x.outcome(4, 1);
        x.outcome(5, 1);
        CHECK.same("47: above", x.overrides(0), 3);
        CHECK.same("47: below", x.overrides(1), 2);
        CHECK.same("47: above, BAD", x.overrides(2), 1);
        CHECK.same("47: not LEARNT", x.overrides(3), 4);
        x.learn();
        CHECK.same("47: all LEARNT", x.overrides(3), 0);
        CHECK.same("47: above, BAD, LEARNT", x.overrides(2), 1);
        CHECK.same("47: no such what", x.overrides(4), -2);
        CHECK.same("47: no such what", x.overrides(-1), -2);
    }

    private static void promise48Learn() {
        RiskBands x = Check.pooled("at 5 good 1 bad 0;");
        CHECK.same("48: none", x.learn(), 0);
        for (int i = 0; i < 4; i++) {
            x.decide(i < 3 ? 5 : 9, 2);
        }
        CHECK.same("48: none has an OUTCOME", x.learn(), 0);
        CHECK.same("48: no act", x.count(11), 4);
        x.outcome(0, 0);
        x.outcome(1, 1);
        x.outcome(3, 1);
        CHECK.same("48: how many", x.learn(), 3);
        CHECK.same("48: GOOD ones of 5", x.row(0, 1), 2);
        CHECK.same("48: BAD ones of 5", x.row(0, 2), 1);
        CHECK.same("48: SCORE 9", x.row(1, 0), 9);
        CHECK.same("48: BAD ones of 9", x.row(1, 2), 1);
        CHECK.same("48: LEARNT", x.decision(0, 4), 1);
        CHECK.same("48: not LEARNT", x.decision(2, 4), 0);
        x.outcome(2, 0);
        CHECK.same("48: the other one", x.learn(), 1);
        x.undo();
        CHECK.same("48: it alone is undone", x.decision(2, 4), 0);
        CHECK.same("48: it alone is undone", x.decision(0, 4), 1);
        CHECK.same("48: GOOD ones of 5", x.row(0, 1), 2);
        x.undo();
        x.undo();
        CHECK.same("48: all are", x.decision(0, 4), 0);
        CHECK.same("48: GOOD ones of 5", x.row(0, 1), 1);
        CHECK.same("48: no ROW 9", x.count(0), 1);
        CHECK.same("48: OUTCOMES stay", x.decision(0, 3), 0);
        CHECK.same("48: once more", x.learn(), 3);
    }

    private static void promise48Refused() {
        RiskBands x = Check.pooled("at 5 good 98 bad 99;");
        for (int i = 0; i < 3; i++) {
            x.decide(i == 0 ? 6 : 5, 2);
            x.outcome(i, 0);
        }
        CHECK.same("48: 100 GOOD ones", x.learn(), -5);
        CHECK.same("48: none LEARNT", x.decision(0, 4), 0);
        CHECK.same("48: none came", x.count(1), 98);
        CHECK.same("48: no act", x.count(11), 6);
        CHECK.same("48: not LEARNT", x.overrides(3), 3);
        x.undo();
        CHECK.same("48: 99 of them", x.learn(), 2);
        RiskBands y = Check.pooled(sixty(" good 1 bad 0;"));
        y.decide(100, 2);
        y.outcome(0, 1);
        CHECK.same("48: a 61st ROW", y.learn(), -5);
        CHECK.same("48: ROWS", y.count(0), 60);
    }

    private static void promise49Adds() {
        RiskBands x = Check.pooled("at 5 good 3 bad 4;");
        CHECK.same("49: none", x.adds(5, 0, 0), 0);
        CHECK.same("49: no act", x.count(11), 0);
        CHECK.same("49: more and fewer", x.adds(5, 96, -4), 1);
        CHECK.same("49: GOOD ones", x.row(0, 1), 99);
        CHECK.same("49: BAD ones", x.row(0, 2), 0);
        CHECK.same("49: 100", x.adds(5, 1, 0), -5);
        CHECK.same("49: below 0", x.adds(5, 0, -1), -5);
        CHECK.same("49: 100 BAD ones", x.adds(5, -99, 99), 1);
        CHECK.same("49: 100 BAD ones", x.adds(5, 0, 1), -5);
        CHECK.same("49: below 0", x.adds(5, -1, 0), -5);
        CHECK.same("49: no ROW more", x.adds(5, 0, -99), 1);
        CHECK.same("49: no ROW more", x.count(0), 0);
        CHECK.same("49: acts", x.count(11), 3);
        CHECK.same("49: no such SCORE", x.adds(1000, 0, 0), -2);
        CHECK.same("49: no such SCORE", x.adds(-1, 1, 1), -2);
        CHECK.same("49: no such count", x.adds(5, 100, 0), -2);
        CHECK.same("49: no such count", x.adds(5, -100, 0), -2);
        CHECK.same("49: no such count", x.adds(5, 0, 100), -2);
        CHECK.same("49: no such count", x.adds(5, 0, -100), -2);
        RiskBands y = Check.pooled(sixty(" good 1 bad 0;"));
        CHECK.same("49: a 61st ROW", y.adds(60, 0, 1), -5);
        CHECK.same("49: a ROW there is", y.adds(59, 0, 1), 1);
        CHECK.same("49: none at a 61st", y.adds(60, 0, 0), 0);
        RiskBands z = Check.pooled(sixty(" good 0 bad 0 open 1;"));
        CHECK.same("49: OPEN ones are no ROWS", z.adds(60, 0, 1), 1);
    }

    private static void promise50Sets() {
        RiskBands x = new RiskBands();
        CHECK.same("50: LEAST", x.sets(0, 9999), 1);
        CHECK.same("50: LEAST", x.sets(0, 0), 9999);
        CHECK.same("50: MOST", x.sets(1, 1), 60);
        CHECK.same("50: MOST", x.sets(1, 60), 1);
        CHECK.same("50: acts", x.count(11), 4);
        CHECK.same("50: as it is", x.sets(1, 60), 60);
        CHECK.same("50: as it is", x.sets(0, 0), 0);
        CHECK.same("50: no act", x.count(11), 4);
        CHECK.same("50: no such", x.sets(0, 10000), -2);
        CHECK.same("50: no such", x.sets(0, -1), -2);
        CHECK.same("50: no such", x.sets(1, 0), -2);
        CHECK.same("50: no such", x.sets(1, 61), -2);
        CHECK.same("50: no such what", x.sets(2, 1), -2);
        CHECK.same("50: no such what", x.sets(-1, 1), -2);
    }

    private static void promise51Costs() {
        RiskBands x = new RiskBands();
        CHECK.same("51: as they are", x.costs(1, 5, 1), 0);
        CHECK.same("51: no act", x.count(11), 0);
        CHECK.same("51: another", x.costs(1, 5, 0), 1);
        CHECK.same("51: others", x.costs(999, 0, 999), 1);
        CHECK.same("51: GOOD", x.count(6), 999);
        CHECK.same("51: BAD", x.count(7), 0);
        CHECK.same("51: referred", x.count(8), 999);
        for (int i = 0; i < 3; i++) {
            for (int v : new int[] {-1, 1000}) {
                CHECK.same("51: no such", x.costs(i == 0 ? v : 1, i == 1 ? v : 1, i == 2 ? v : 1), -2);
            }
        }
        CHECK.same("51: nothing changed", x.count(8), 999);
    }

    private static void promise52Undo() {
        RiskBands x = new RiskBands();
        CHECK.same("52: none", x.undo(), -1);
        for (int i = 1; i <= 13; i++) {
            x.adds(i, 1, 0);
            CHECK.same("52: can be undone", x.count(11), Math.min(i, 10));
        }
        for (int i = 9; i >= 0; i--) {
            CHECK.same("52: undo()", x.undo(), i);
            CHECK.same("52: ROWS", x.count(0), 3 + i);
        }
        CHECK.same("52: the latest 10 alone", x.undo(), -1);
        for (int i = 0; i < 3; i++) {
            CHECK.same("52: the oldest stay", x.row(i, 0), i + 1);
        }
        CHECK.same("52: ROWS", x.count(0), 3);
    }

    private static void promise52EachAct() {
        RiskBands x = Check.pooled("at 5 good 3 bad 4 open 2;");
        Check.sampled(x, "at 5 good 3 bad 4;");
        x.adds(6, 1, 2);
        x.sets(0, 7);
        x.sets(1, 8);
        x.costs(2, 3, 4);
        x.decide(5, 2);
        x.month();
        x.outcome(0, 1);
        x.learn();
        x.infer(100);
        CHECK.same("52: acts", x.count(11), 8);
        CHECK.same("52: infer()", x.undo(), 7);
        CHECK.same("52: OPEN again", x.open(5), 2);
        CHECK.same("52: learn()", x.undo(), 6);
        CHECK.same("52: not LEARNT", x.decision(0, 4), 0);
        CHECK.same("52: BAD ones", x.row(0, 2), 4);
        CHECK.same("52: outcome()", x.undo(), 5);
        CHECK.same("52: no OUTCOME", x.decision(0, 3), -1);
        CHECK.same("52: decide()", x.undo(), 4);
        CHECK.same("52: no DECISION", x.count(9), 0);
        CHECK.same("52: costs()", x.undo(), 3);
        CHECK.same("52: COSTS", x.count(6) * 100 + x.count(7) * 10 + x.count(8), 151);
        CHECK.same("52: sets()", x.undo(), 2);
        CHECK.same("52: MOST", x.count(5), 60);
        CHECK.same("52: sets()", x.undo(), 1);
        CHECK.same("52: LEAST", x.count(4), 1);
        CHECK.same("52: adds()", x.undo(), 0);
        CHECK.same("52: ROWS", x.count(0), 1);
        CHECK.same("52: the SAMPLE stays", x.count(10), 7);
        CHECK.same("52: MONTHS stay", x.count(15), 1);
    }

    private static void promise52RefusedAreNoActs() {
        RiskBands x = Check.pooled("at 5 good 3 bad 4;");
        x.adds(5, 99, 0);
        x.adds(5, 0, 0);
        x.sets(0, 1);
        x.sets(1, 99);
        x.costs(1, 5, 1);
        x.decide(5, 9);
        x.outcome(0, 0);
        x.learn();
        x.infer(50);
        x.tell();
        CHECK.same("52: no acts", x.count(11), 0);
        CHECK.same("52: none", x.undo(), -1);
    }
}
