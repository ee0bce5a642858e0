/** The bounds that the document names, sentence by sentence: Terms I, promises 1 to 6. */
public final class EdgeTextTest {
    private static final Check CHECK = new Check("edges of the text");
    private static final String ONE = "at 5 good 1 bad 2;";

    public static void main(String[] args) {
        linesAndTheirEnds();
        tokensOfLines();
        scores();
        counts();
        openOnes();
        settings();
        settingsOnce();
        blanksAndOtherBytes();
        longestTokens();
        firstFault();
        leastFaultOfOnePlace();
        faultOne();
        faultTwo();
        faultThree();
        faultFour();
        newObject();
        feedBytes();
        feedRefused();
        end();
        pool();
        poolInPlaceOfAll();
        poolRefused();
        sample();
        sampleRefused();
        fault();
        CHECK.closeWith(1, 2, 3, 4, 5, 6);
    }

    // ---- Terms I

    private static void linesAndTheirEnds() {
        CHECK.says(0, "TEXT: {LINE ;}.");
        isRead("", 0);
        isRead("least 1;", 1);
        isRead("least 1;most 1;", 2);
        isFault(";", 1, 0);
        isFault("least 1", 1, 7);
        isFault("least 1;;", 1, 8);
        isFault("least 1;most 1", 1, 14);
        isFault("least 1 most 1;", 1, 8);
    }

    private static void tokensOfLines() {
        CHECK.says(0, "LINE: at S good N bad N [open N] | least N | most N | cost N N N.");
        for (String line : new String[] {"at 5 good 6 bad 7 open 8 ;", "at 5 good 6 bad 7 ;", "least 5 ;", "most 5 ;",
            "cost 5 6 7 ;"}) {
            isRead(line, 1);
            String[] tokens = line.split(" ");
            for (int i = 0; i < tokens.length; i++) {
                String ahead = String.join(" ", java.util.Arrays.copyOf(tokens, i)) + (i > 0 ? " " : "");
                // no LINE may end ahead of its last TOKEN but in open
                if (i > 0) {
                    isFault(ahead, 1, ahead.length());
                    if (!tokens[i].equals("open") && !tokens[i].equals(";")) {
                        isFault(ahead + ";", 1, ahead.length());
                    }
                }
                isFault(ahead + "other" + line.substring(ahead.length() + tokens[i].length()), 1, ahead.length());
                if (!tokens[i].matches("[0-9]+")) {
                    isFault(ahead + "5" + line.substring(ahead.length() + tokens[i].length()), 1, ahead.length());
                }
            }
        }
        isFault("at 5 good 6 bad 7 open 8 open 8;", 1, 25);
        isFault("at 5 good 6 open 8 bad 7;", 1, 12);
        isFault("at 5 bad 7 good 6;", 1, 5);
        isFault("least 1 1;", 1, 8);
        isFault("cost 1 1 1 1;", 1, 11);
    }

    private static void scores() {
        CHECK.says(0, "S a SCORE 0 .. 999, each once");
        RiskBands x = isRead("at 999 good 1 bad 2;at 0 good 3 bad 4;", 2);
        CHECK.same("row(0, 0)", x.row(0, 0), 0);
        CHECK.same("row(1, 0)", x.row(1, 0), 999);
        isFault("at 1000 good 1 bad 2;", 2, 3);
        isSampled("at 999 good 1 bad 2;at 0 good 3 bad 4;", 10);
        isSampleFault("at 1000 good 1 bad 2;", 2, 3);
        isFault("at 0 good 1 bad 2;at 0 good 1 bad 2;", 3, 21);
        isFault("at 999 good 1 bad 2;at 0 good 1 bad 1;at 999 good 1 bad 2;", 3, 41);
        isSampleFault("at 7 good 1 bad 2;at 8 good 1 bad 2;at 7 good 1 bad 2;", 3, 39);
        // each TEXT by itself
        isPooled(x, "at 0 good 5 bad 6;", 1);
        CHECK.same("a SAMPLE of the same SCORE", Check.sampled(x, "at 0 good 5 bad 6;"), 11);
        CHECK.same("another SAMPLE of it", Check.sampled(x, "at 0 good 5 bad 7;"), 12);
    }

    private static void counts() {
        CHECK.says(0, "good, bad, open 0 .. 99");
        RiskBands x = isRead("at 5 good 0 bad 99 open 99;at 6 good 99 bad 0 open 0;", 2);
        CHECK.same("row(0, 1)", x.row(0, 1), 0);
        CHECK.same("row(0, 2)", x.row(0, 2), 99);
        CHECK.same("row(1, 1)", x.row(1, 1), 99);
        CHECK.same("row(1, 2)", x.row(1, 2), 0);
        CHECK.same("open(5)", x.open(5), 99);
        CHECK.same("open(6)", x.open(6), 0);
        isFault("at 5 good 100 bad 2 open 3;", 2, 10);
        isFault("at 5 good 1 bad 100 open 3;", 2, 16);
        isFault("at 5 good 1 bad 2 open 100;", 2, 23);
        isSampled("at 5 good 99 bad 99 open 99;", 198);
        isSampleFault("at 5 good 100 bad 2;", 2, 10);
        isSampleFault("at 5 good 1 bad 100;", 2, 16);
        isSampleFault("at 5 good 1 bad 2 open 100;", 2, 23);
    }

    private static void openOnes() {
        CHECK.says(0, "(open ones are not CASES; 0 GOOD and 0 BAD ones: no ROW)");
        RiskBands x = isRead("at 5 good 0 bad 0 open 99;at 6 good 1 bad 0 open 9;at 7 good 0 bad 1;at 8 good 0 bad 0;", 4);
        CHECK.same("ROWS", x.count(0), 2);
        CHECK.same("the first", x.row(0, 0), 6);
        CHECK.same("the second", x.row(1, 0), 7);
        CHECK.same("GOOD ones", x.count(1), 1);
        CHECK.same("BAD ones", x.count(2), 1);
        CHECK.same("the mean of all", x.mean(2), Check.bits(6.5));
        CHECK.same("OPEN ones", x.count(14), 108);
        CHECK.same("the greatest SCORE", x.count(17), 7);
        RiskBands y = isRead("at 5 good 0 bad 0 open 99;", 1);
        CHECK.same("no CASES", y.median(), -1);
        CHECK.same("open ones of a SAMPLE", Check.sampled(y, "at 5 good 0 bad 0 open 99;"), 0);
        CHECK.same("they are not OPEN", y.count(14), 99);
    }

    private static void settings() {
        CHECK.says(0, "LEAST 0 .. 9999, MOST 1 .. 60, COSTS 0 .. 999: of a GOOD one that is declined, a BAD one that is"
                + " accepted, one that is referred");
        CHECK.same("LEAST 0", isRead("least 0;", 1).count(4), 0);
        CHECK.same("LEAST 9999", isRead("least 9999;", 1).count(4), 9999);
        isFault("least 10000;", 2, 6);
        CHECK.same("MOST 1", isRead("most 1;", 1).count(5), 1);
        CHECK.same("MOST 60", isRead("most 60;", 1).count(5), 60);
        isFault("most 0;", 2, 5);
        isFault("most 61;", 2, 5);
        for (int i = 0; i < 3; i++) {
            for (int v : new int[] {0, 999}) {
                RiskBands x = isRead(costLine(i, v), 1);
                for (int k = 0; k < 3; k++) {
                    CHECK.same("COST " + k + " of " + costLine(i, v), x.count(6 + k), k == i ? v : 7);
                }
            }
            isFault(costLine(i, 1000), 2, 5 + 2 * i);
        }
        RiskBands x = isRead("at 5 good 1 bad 0;at 6 good 0 bad 1;cost 20 300 4;", 3);
        CHECK.same("a GOOD one declined", x.cost(1000), 20);
        CHECK.same("a BAD one accepted", x.cost(0), 300);
        CHECK.same("both referred", x.refer(0, 1000), 8);
    }

    private static String costLine(int which, int v) {
        return "cost " + (which == 0 ? v : 7) + " " + (which == 1 ? v : 7) + " " + (which == 2 ? v : 7) + ";";
    }

    private static void settingsOnce() {
        CHECK.says(0, "each at most once.");
        isRead("cost 1 2 3;most 4;least 5;", 3);
        isFault("least 1;least 1;", 3, 8);
        isFault("most 1;most 1;", 3, 7);
        isFault("cost 1 2 3;cost 1 2 3;", 3, 11);
        isFault("cost 1 2 3;most 4;least 5;" + ONE + "least 5;", 3, 44);
        isFault("cost 1 2 3;most 4;least 5;" + ONE + "most 4;", 3, 44);
        isFault("cost 1 2 3;most 4;least 5;" + ONE + "cost 1 2 3;", 3, 44);
        // each TEXT by itself
        RiskBands x = isRead("least 7;", 1);
        isPooled(x, "least 8;", 1);
        CHECK.same("LEAST", x.count(4), 8);
    }

    private static void blanksAndOtherBytes() {
        CHECK.says(0, "TOKENS, blanks (32, 10) aside, the longest: words (a .. z), numbers (digits), the sign ; .");
        for (int value = 0; value < 256; value++) {
            char sign = (char) value;
            String text = "at" + sign + " 5 good 1 bad 2;";
            if (sign == ' ' || sign == '\n') {
                isRead(text, 1);
            } else if (sign >= 'a' && sign <= 'z') {
                isFault(text, 1, 0);
            } else {
                // a digit is a SCORE by itself, so that 5 can't stand there
                isFault(text, 1, sign >= '0' && sign <= '9' ? 4 : 2);
            }
            isFault(ONE + "least 1" + sign, 1, sign == ';' ? -1 : placeBehind(sign));
        }
        isRead(" \n at \n\n5 good\n1 bad 2\n;\n ", 1);
    }

    /** Behind "least 1" a digit belongs to the number, and a blank to nothing, so that the end is told. */
    private static int placeBehind(char sign) {
        boolean isPart = sign >= '0' && sign <= '9' || sign == ' ' || sign == '\n';
        return ONE.length() + (isPart ? 8 : 7);
    }

    private static void longestTokens() {
        CHECK.says(0, "the longest: words (a .. z), numbers (digits)");
        isRead("at5good1bad2open3;least4;most5;cost6 7 8;", 4);
        isFault("at5goodbad2;", 1, 3);
        isFault("at5 good1 0 bad2;", 1, 10);
        isFault("cost678;", 1, 7);
        isFault("lea st 1;", 1, 0);
        isFault("leastmost 1;", 1, 0);
        isFault("leas 1;", 1, 0);
        isFault("leasts 1;", 1, 0);
        isFault("a t 5 good 1 bad 2;", 1, 0);
        RiskBands x = isRead("least " + "0".repeat(1580) + "77;", 1);
        CHECK.same("LEAST by 1582 digits", x.count(4), 77);
    }

    private static void firstFault() {
        CHECK.says(0, "FAULTS, the first by its place (a TOKEN's first byte; the end's)");
        isFault("at 1000 good 100 bad ?", 2, 3);
        isFault("at 5 good 100 bad ?", 2, 10);
        isFault("at 5 x good 100 bad 2;", 1, 5);
        isFault(ONE + "at 5 good 100 bad 2;least", 3, 21);
        isFault("   wrong 1;", 1, 3);
        isFault("at 5 good 00100 bad 2;", 2, 10);
        isFault("at", 1, 2);
        isFault("at \n ", 1, 5);
        isFault(ONE + "least 1 " + " ".repeat(1574), 1, 1600);
        isFault(ONE + " ".repeat(1581) + "?", 1, 1599);
        isRead(ONE + " ".repeat(1582), 1);
    }

    private static void leastFaultOfOnePlace() {
        CHECK.says(0, "of one place the least");
        isFault("least least 1;", 1, 6);
        isFault("least 1 least 1;", 1, 8);
        isFault("most 5 most 6;", 1, 7);
        isFault("cost 1 cost 1 1 1;", 1, 7);
        isFault("10000;", 1, 0);
        isFault("at 5 1000 good 1 bad 2;", 1, 5);
        isFault(ONE + "at at 5 good 1 bad 2;", 1, 21);
        String sixty = Check.rows(0, 60, "good 1 bad 0");
        isFault(sixty + "least at 5;", 1, sixty.length() + 6);
        String open = sixty.substring(0, sixty.length() - 1);
        isFault(open + " at 60 good 1 bad 0;", 1, sixty.length());
        isSampleFault("least 10000;", 1, 0);
    }

    private static void faultOne() {
        CHECK.says(0, "1 a TOKEN that is none, or can't stand there (in a SAMPLE least, most, cost, too).");
        isFault("At 5 good 1 bad 2;", 1, 0);
        isFault("at -1 good 1 bad 2;", 1, 3);
        isFault("at 5, good 1 bad 2;", 1, 4);
        isFault("good 5 at 1 bad 2;", 1, 0);
        isFault("open 5;", 1, 0);
        for (String line : new String[] {"least 1;", "most 1;", "cost 1 1 1;"}) {
            isSampleFault(line, 1, 0);
            isSampleFault(ONE + line, 1, 18);
            isRead(ONE + line, 2);
        }
        isSampleFault("?", 1, 0);
        isSampleFault("at 5 good 1 bad 2", 1, 17);
    }

    private static void faultTwo() {
        CHECK.says(0, "2 a number out of its bounds.");
        // numbers that would be in their bounds if they went round
        for (String large : new String[] {"1000", "9999", "65541", "2147483648", "4294967301", "18446744073709551621",
            "1" + "0".repeat(1500)}) {
            isFault("at " + large + " good 1 bad 2;", 2, 3);
            isFault("at 5 good " + large + " bad 2;", 2, 10);
        }
        isFault("least 4294967297;", 2, 6);
        isFault("most 4294967297;", 2, 5);
        isFault("cost 4294967297 1 1;", 2, 5);
    }

    private static void faultThree() {
        CHECK.says(0, "3 a SCORE told already, at it; least, most, cost for the second time, at the word.");
        isFault("at 5 good 0 bad 0;at 5 good x", 3, 21);
        isFault("at 5 good 1 bad 2;at   05 good 1 bad 2;", 3, 23);
        isFault("at 0 good 0 bad 0 open 1;at 0 good 0 bad 0 open 1;", 3, 28);
        isFault("least 1; least 10000;", 3, 9);
        isFault("most 1; most 0;", 3, 8);
        isFault("cost 1 1 1; cost", 3, 12);
    }

    private static void faultFour() {
        CHECK.says(0, "4 a 61st at, at its word.");
        String sixty = Check.rows(0, 60, "good 1 bad 0");
        String none = Check.rows(0, 60, "good 0 bad 0");
        isRead(sixty, 60);
        isRead(none, 60);
        isFault(sixty + " at 60 good 1 bad 0;", 4, sixty.length() + 1);
        isFault(none + "at 60 good 0 bad 0;", 4, none.length());
        isFault(sixty + "at 0 good 100", 4, sixty.length());
        isFault(sixty + "least 1;at", 4, sixty.length() + 8);
        isSampled(sixty, 60);
        isSampleFault(sixty + "at 60 good 1 bad 0;", 4, sixty.length());
        isSampleFault(none + "at 60 good 0 bad 0;", 4, none.length());
    }

    // ---- promises

    private static void newObject() {
        CHECK.says(1, "No CASES, LEAST 1, MOST 60, COSTS 1, 5, 1.");
        RiskBands x = new RiskBands();
        int[] due = {0, 0, 0, 0, 1, 60, 1, 5, 1, 0, 0, 0, 0, 0, 0, 0, 0, -1};
        for (int what = 0; what < due.length; what++) {
            CHECK.same("count(" + what + ")", x.count(what), due[what]);
        }
        CHECK.same("no ROW", x.row(0, 0), -2);
        CHECK.same("no BAND", x.band(0, 0), -2);
        CHECK.same("no DECISION", x.decision(0, 0), -2);
        CHECK.same("no OPEN ones", x.open(0) + x.open(999), 0);
        CHECK.same("nothing to undo", x.undo(), -1);
        CHECK.same("an empty TAPE", x.pool(), 0);
        CHECK.text("as one of an empty TEXT", Look.at(x), Look.at(new RiskBands()));
    }

    private static void feedBytes() {
        CHECK.says(2, "Twenty bytes come behind the TAPE, four of each number, the highest first: how many it has");
        RiskBands x = new RiskBands();
        // "at 9 good 1 bad 20;" and a blank
        CHECK.same("the first", x.feed(0x61742039, 0x20676f6f, 0x64203120, 0x62616420, 0x32303b20), 20);
        CHECK.same("behind it", x.feed(0x61742038, 0x20676f6f, 0x64203320, 0x62616420, 0x34303b0a), 40);
        CHECK.same("pool()", x.pool(), 2);
        CHECK.same("row(0, 0)", x.row(0, 0), 8);
        CHECK.same("row(0, 2)", x.row(0, 2), 40);
        CHECK.same("row(1, 0)", x.row(1, 0), 9);
        CHECK.same("row(1, 1)", x.row(1, 1), 1);
        CHECK.same("row(1, 2)", x.row(1, 2), 20);
        // each of the four bytes by itself is the one that is no TOKEN
        for (int at = 0; at < 4; at++) {
            int word = 0x20202020 ^ 0xe0 << 24 - 8 * at;
            CHECK.same("feed()", x.feed(0x20202020, 0x20202020, word, 0x20202020, 0x20202020), 20);
            CHECK.same("pool()", x.pool(), -4);
            CHECK.same("its place", x.fault(1), 8 + at);
        }
        for (int value : new int[] {Integer.MIN_VALUE, Integer.MAX_VALUE, -1, 0}) {
            CHECK.same("feed()", x.feed(value, value, value, value, value), 20);
            CHECK.same("pool()", x.pool(), -4);
            CHECK.same("its place", x.fault(1), 0);
        }
    }

    private static void feedRefused() {
        CHECK.says(2, "NONE, and none come, if it would have more than 1600.");
        RiskBands x = new RiskBands();
        Check.feed(x, ONE + " ".repeat(1562));
        CHECK.same("1600 of them", lineOf98(x), 1600);
        CHECK.same("1620 would be too many", x.feed(0x3f3f3f3f, 0, 0, 0, 0), -1);
        CHECK.same("none came", x.count(12), 1600);
        CHECK.same("all of 1600", x.pool(), 2);
        CHECK.same("the last LINE", x.count(17), 98);
        Check.feed(x, ONE + " ".repeat(1563));
        CHECK.same("1601 would be too many", lineOf98(x), -1);
        CHECK.same("none came", x.count(12), 1581);
        CHECK.same("all of 1581", x.pool(), 1);
        CHECK.same("no other LINE", x.count(17), 5);
        CHECK.same("room again", lineOf98(x), 20);
        CHECK.refused("feed()", () -> full(), full -> full.feed(0x3f3f3f3f, 0, 0, 0, 0), -1);
    }

    private static RiskBands full() {
        RiskBands x = Check.pooled(ONE);
        Check.feed(x, " ".repeat(1600));
        return x;
    }

    /** "at 98 good 1 bad 1; " */
    private static int lineOf98(RiskBands x) {
        return x.feed(0x61743938, 0x20676f6f, 0x64203120, 0x62616420, 0x31203b20);
    }

    private static void end() {
        CHECK.says(3, "The TAPE has its first n bytes alone: n");
        RiskBands x = new RiskBands();
        CHECK.same("end(0) of none", x.end(0), 0);
        lineOf98(x);
        CHECK.same("all", x.end(20), 20);
        CHECK.same("all but the blank", x.end(19), 19);
        CHECK.same("so many", x.count(12), 19);
        CHECK.same("behind these", lineOf98(x), 39);
        CHECK.same("the first again", x.end(19), 19);
        CHECK.same("one LINE", x.pool(), 1);
        lineOf98(x);
        CHECK.same("without ;", x.end(18), 18);
        CHECK.same("a FAULT", x.pool(), -4);
        CHECK.same("at the end", x.fault(1), 18);
        lineOf98(x);
        CHECK.same("none", x.end(0), 0);
        CHECK.same("no TEXT", x.pool(), 0);
        CHECK.same("all of 1600", full().end(1600), 1600);

        CHECK.says(3, "NONE, and nothing happens, if it has not so many, or n is below 0.");
        CHECK.same("end(1) of none", new RiskBands().end(1), -1);
        CHECK.refused("one more", EdgeTextTest::full, y -> y.end(1601), -1);
        CHECK.refused("below 0", EdgeTextTest::full, y -> y.end(-1), -1);
        CHECK.refused("far below 0", EdgeTextTest::full, y -> y.end(Integer.MIN_VALUE), -1);
        CHECK.refused("far above", EdgeTextTest::full, y -> y.end(Integer.MAX_VALUE), -1);
        lineOf98(x);
        x.end(19);
        CHECK.same("not the 20th again", x.end(20), -1);
        CHECK.same("as it was", x.pool(), 1);
    }

    private static void pool() {
        CHECK.says(4, "The TAPE (empty then) tells the POOL");
        RiskBands x = isRead(Check.rows(0, 60, "good 1 bad 0") + "least 2;most 3;cost 4 5 6;", 63);
        CHECK.same("the TAPE", x.count(12), 0);
        CHECK.same("ROWS", x.count(0), 60);
        CHECK.same("LEAST", x.count(4), 2);
        CHECK.same("MOST", x.count(5), 3);
        CHECK.same("COSTS", x.count(6) * 100 + x.count(7) * 10 + x.count(8), 456);
        CHECK.same("of an empty TAPE no LINE", x.pool(), 0);
        CHECK.text("an empty POOL", Look.at(x), Look.at(new RiskBands()));
    }

    private static void poolInPlaceOfAll() {
        CHECK.says(4, "(in place of all there was, DECISIONS, the SAMPLE, MONTHS, what can be undone, too; not OUT)");
        RiskBands x = busy();
        isPooled(x, "at 7 good 3 bad 0;", 1);
        CHECK.text("OUT stays", Check.outOf(x), "5-5 1 3;");
        CHECK.same("its bytes", x.count(16), 8);
        CHECK.same("ROWS", x.count(0), 1);
        CHECK.same("the ROW", x.row(0, 0), 7);
        CHECK.same("LEAST", x.count(4), 1);
        CHECK.same("MOST", x.count(5), 60);
        CHECK.same("COSTS", x.count(6) * 100 + x.count(7) * 10 + x.count(8), 151);
        CHECK.same("DECISIONS", x.count(9), 0);
        CHECK.same("DECISION 0", x.decision(0, 0), -2);
        CHECK.same("the SAMPLE", x.count(10), 0);
        CHECK.same("its mean", x.mean(3), RiskBands.NO_SUCH);
        CHECK.same("none to keep", x.month(), -5);
        CHECK.same("acts", x.count(11), 0);
        CHECK.same("OPEN ones", x.count(14), 0);
        CHECK.same("of SCORE 10", x.open(10), 0);
        CHECK.same("MONTHS", x.count(15), 0);
        CHECK.same("MONTH 0", x.off(0, 0), RiskBands.NO_SUCH);
        CHECK.same("overrides", x.overrides(0) + x.overrides(1) + x.overrides(3), 0);
        CHECK.same("undo()", x.undo(), -1);
        // a DECISION of the same number has nothing of the old one
        CHECK.same("decide()", x.decide(7, 1), 0);
        CHECK.same("no OUTCOME", x.decision(0, 3), -1);
        CHECK.same("not LEARNT", x.decision(0, 4), 0);
        // a LINE without open has none of the LINE that stood there in the TEXT ahead, told or faulty
        RiskBands y = isRead("at 5 good 1 bad 2 open 9;least 7;most 7;cost 7 7 7;", 4);
        isPooled(y, "at 6 good 1 bad 2;", 1);
        CHECK.same("open(6)", y.open(6), 0);
        CHECK.same("OPEN ones", y.count(14), 0);
        Check.feed(y, "at 5 good 1 bad 2 open 9;least 7;most 7;cost 7 7 7;?");
        CHECK.same("a FAULT", y.pool(), -4);
        isPooled(y, "at 6 good 3 bad 4;", 1);
        CHECK.same("open(6)", y.open(6), 0);
        CHECK.same("GOOD ones", y.count(1), 3);
        CHECK.same("LEAST", y.count(4), 1);
        CHECK.same("MOST", y.count(5), 60);
        CHECK.same("COSTS", y.count(6) * 100 + y.count(7) * 10 + y.count(8), 151);
    }

    /** All of it holds something: 5 has 1 GOOD and 3 BAD ones, one of these LEARNT; OUT is full. */
    private static RiskBands busy() {
        RiskBands x = Check.pooled("at 5 good 1 bad 2;at 10 good 0 bad 0 open 4;least 2;most 3;cost 4 5 6;");
        Check.sampled(x, "at 5 good 3 bad 4;");
        x.month();
        x.decide(5, 2);
        x.outcome(0, 1);
        x.learn();
        x.tell();
        x.decide(999, 2);
        x.outcome(1, 0);
        return x;
    }

    private static void poolRefused() {
        CHECK.says(4, "-4: a FAULT (all else stays).");
        for (String text : new String[] {"?", ONE, "at 1000 good 1 bad 1;", "least 1;least 1;",
            Check.rows(100, 60, "good 1 bad 0")}) {
            // one LINE that stands is not told either
            String faulty = "at 6 good 9 bad 9 open 9;least 9;most 9;cost 9 9 9;" + text + "at 6 good 1 bad 1;";
            RiskBands x = busy();
            Check.feed(x, faulty);
            CHECK.same("pool() of " + faulty, x.pool(), -4);
            CHECK.same("the TAPE is empty", x.count(12), 0);
            CHECK.text("all else stays", Look.besideTheTape(x), Look.besideTheTape(busy()));
        }
        CHECK.says(0, "A refused call changes nothing (pool(), sample() empty the TAPE, and their FAULT is told).");
        RiskBands x = busy();
        Check.feed(x, "at 6 good 100 bad 1;");
        CHECK.same("pool()", x.pool(), -4);
        CHECK.same("the TAPE", x.count(12), 0);
        CHECK.same("its FAULT", x.fault(0), 2);
        CHECK.same("its place", x.fault(1), 10);
        Check.feed(x, "least 1;");
        CHECK.same("sample()", x.sample(), -4);
        CHECK.same("the TAPE", x.count(12), 0);
        CHECK.same("its FAULT", x.fault(0), 1);
        CHECK.same("its place", x.fault(1), 0);
    }

    private static void sample() {
        CHECK.says(5, "The TAPE (empty then) tells a SAMPLE by a TEXT of at-LINES alone (in place of another; the POOL"
                + " stays): how many CASES it has.");
        RiskBands x = busy();
        CHECK.same("another", Check.sampled(x, "at 7 good 1 bad 0;at 999 good 0 bad 99 open 9;"), 100);
        CHECK.same("the TAPE", x.count(12), 0);
        CHECK.same("in place of it", x.count(10), 100);
        CHECK.same("its mean", x.mean(3), Check.bits((7.0 + 999.0 * 99.0) / 100.0));
        CHECK.same("MONTHS stay", x.off(0, 1), 1);
        CHECK.same("no act", x.count(11), busy().count(11));
        CHECK.same("OPEN ones stay", x.count(14), 4);
        CHECK.same("the full one", Check.sampled(x, Check.rows(0, 60, "good 99 bad 99")), 11880);
        CHECK.same("of an empty TAPE", x.sample(), 0);
        CHECK.same("none", x.count(10), 0);
        CHECK.same("of no CASES", Check.sampled(x, "at 5 good 0 bad 0;"), 0);
        Check.sampled(x, "at 5 good 3 bad 4;");
        CHECK.text("the POOL stays", Look.besideTheTape(x), Look.besideTheTape(busy()));
        RiskBands y = new RiskBands();
        CHECK.same("without a POOL", Check.sampled(y, ONE), 3);
        CHECK.same("no ROWS", y.count(0), 0);
    }

    private static void sampleRefused() {
        CHECK.says(5, "-4: a FAULT (all else stays).");
        for (String text : new String[] {"?", "at 5 good 1 bad 2", "at 1000 good 1 bad 1;", ONE + ONE, "least 1;",
            "most 1;", "cost 1 1 1;", Check.rows(100, 60, "good 1 bad 0")}) {
            RiskBands x = busy();
            Check.feed(x, "at 6 good 9 bad 9 open 9;" + text);
            CHECK.same("sample() of " + text, x.sample(), -4);
            CHECK.same("the TAPE is empty", x.count(12), 0);
            CHECK.text("all else stays", Look.besideTheTape(x), Look.besideTheTape(busy()));
        }
    }

    private static void fault() {
        CHECK.says(6, "Of the latest pool() or sample(), what 0: its FAULT, 0 without, 1: its place (NONE without).");
        RiskBands x = new RiskBands();
        x.pool();
        isTold(x, 0, -1);
        Check.feed(x, "?");
        isTold(x, 0, -1);
        x.pool();
        isTold(x, 1, 0);
        Check.sampled(x, "at 1000");
        isTold(x, 2, 3);
        Check.sampled(x, ONE);
        isTold(x, 0, -1);
        Check.sampled(x, "?");
        isTold(x, 1, 0);
        Check.feed(x, ONE);
        isTold(x, 1, 0);
        x.pool();
        isTold(x, 0, -1);

        CHECK.says(6, "NONE for another what, and ahead of any (what 1).");
        isTold(new RiskBands(), 0, -1);
        Check.feed(x, "at 5 good 100");
        x.pool();
        CHECK.within("fault()", 0, 1, -1, what -> x.fault(what));
        isTold(x, 2, 10);
    }

    // ---- helpers

    private static void isTold(RiskBands x, int kind, int place) {
        CHECK.same("fault(0)", x.fault(0), kind);
        CHECK.same("fault(1)", x.fault(1), place);
    }

    private static void isPooled(RiskBands x, String text, int lines) {
        Check.feed(x, text);
        CHECK.same("pool() of " + text, x.pool(), lines);
        isTold(x, 0, -1);
    }

    private static RiskBands isRead(String text, int lines) {
        RiskBands x = new RiskBands();
        isPooled(x, text, lines);
        return x;
    }

    /** A FAULT of pool(); the place -1 stands for a TEXT without. */
    private static void isFault(String text, int kind, int place) {
        RiskBands x = new RiskBands();
        Check.feed(x, text);
        CHECK.same("pool() of " + text, x.pool() < 0 ? -4 : 0, place < 0 ? 0 : -4);
        CHECK.same("the FAULT of " + text, x.fault(0), place < 0 ? 0 : kind);
        CHECK.same("the place of " + text, x.fault(1), place);
    }

    private static void isSampled(String text, int cases) {
        RiskBands x = new RiskBands();
        CHECK.same("sample() of " + text, Check.sampled(x, text), cases);
        isTold(x, 0, -1);
    }

    private static void isSampleFault(String text, int kind, int place) {
        RiskBands x = new RiskBands();
        CHECK.same("sample() of " + text, Check.sampled(x, text), -4);
        CHECK.same("the FAULT of " + text, x.fault(0), kind);
        CHECK.same("the place of " + text, x.fault(1), place);
    }
}
