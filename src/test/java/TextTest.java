/** Promises 1 to 6: a new object, the TAPE, and the TEXT with its FAULTS. */
public final class TextTest {
    private static final Check CHECK = new Check("text");

    public static void main(String[] args) {
        promise1NewObject();
        promise2Feed();
        promise3End();
        promise4Pool();
        promise4InPlaceOfAll();
        promise5Sample();
        promise6Fault();
        faultOne();
        faultTwo();
        faultThree();
        faultFour();
        CHECK.close();
    }

    private static void promise1NewObject() {
        RiskBands x = new RiskBands();
        int[] due = {0, 0, 0, 0, 1, 60, 1, 5, 1, 0, 0, 0, 0, 0, 0, 0, 0, -1};
        for (int what = 0; what < due.length; what++) {
            CHECK.same("1: count(" + what + ")", x.count(what), due[what]);
        }
    }

    private static void promise2Feed() {
        RiskBands x = new RiskBands();
        for (int i = 1; i <= 80; i++) {
            CHECK.same("2: feed " + i, x.feed(-1, 0, 1, 2, 3), 20 * i);
        }
        CHECK.same("2: an 81st", x.feed(0, 0, 0, 0, 0), -1);
        CHECK.same("2: none came", x.count(12), 1600);
        x.end(1581);
        CHECK.same("2: 1601 bytes", x.feed(0, 0, 0, 0, 0), -1);
        x.end(1580);
        CHECK.same("2: 1600 bytes", x.feed(0, 0, 0, 0, 0), 1600);
        // "at 9 good 1 bad 20;", the highest byte first, and one blank
        RiskBands y = new RiskBands();
        y.feed(0x61742039, 0x20676f6f, 0x64203120, 0x62616420, 0x32303b20);
        CHECK.same("2: the order of bytes", y.pool(), 1);
        CHECK.same("2: the last number", y.row(0, 2), 20);
    }

    private static void promise3End() {
        RiskBands x = new RiskBands();
        CHECK.same("3: end(1) of none", x.end(1), -1);
        CHECK.same("3: end(0) of none", x.end(0), 0);
        x.feed(0, 0, 0, 0, 0);
        CHECK.same("3: below 0", x.end(-1), -1);
        CHECK.same("3: too many", x.end(21), -1);
        CHECK.same("3: nothing happened", x.count(12), 20);
        CHECK.same("3: all", x.end(20), 20);
        CHECK.same("3: some", x.end(7), 7);
        CHECK.same("3: so many left", x.count(12), 7);
        CHECK.same("3: not those again", x.end(8), -1);
        CHECK.same("3: the least int", x.end(Integer.MIN_VALUE), -1);
    }

    private static void promise4Pool() {
        RiskBands x = new RiskBands();
        Check.feed(x, "at7good01bad002open3;\nmost 9;least 0; cost 0 999 7 ; at 0 good 0 bad 0 open 99;at 999 good 0 bad 0;");
        CHECK.same("4: LINES", x.pool(), 6);
        CHECK.same("4: the TAPE is empty", x.count(12), 0);
        CHECK.same("4: one ROW", x.count(0), 1);
        CHECK.same("4: LEAST", x.count(4), 0);
        CHECK.same("4: MOST", x.count(5), 9);
        CHECK.same("4: COST", x.count(6), 0);
        CHECK.same("4: COST", x.count(7), 999);
        CHECK.same("4: COST", x.count(8), 7);
        CHECK.same("4: OPEN ones", x.count(14), 102);
        CHECK.same("4: OPEN ones of 0", x.open(0), 99);
        for (int i = 0; i < 80; i++) {
            x.feed(0x20202020, 0x20200a20, 0x20202020, 0x20202020, 0x20202020);
        }
        CHECK.same("4: a whole TAPE of blanks", x.pool(), 0);
        CHECK.same("4: blanks alone", told(x, " \n \n"), 0);
        CHECK.same("4: all gone", x.count(14) + x.count(0), 0);
        CHECK.same("4: LEAST anew", x.count(4), 1);
        CHECK.same("4: MOST anew", x.count(5), 60);
        CHECK.same("4: COSTS anew", x.count(7), 5);
    }

    private static void promise4InPlaceOfAll() {
        RiskBands x = Check.pooled("at 5 good 1 bad 2;");
        Check.sampled(x, "at 5 good 3 bad 0;");
        x.month();
        x.decide(5, 2);
        x.adds(5, 1, 1);
        x.tell();
        CHECK.same("4: a FAULT", told(x, "at 5"), -4);
        CHECK.same("4: acts stay", x.count(11), 2);
        CHECK.same("4: the SAMPLE stays", x.count(10), 3);
        CHECK.same("4: a MONTH stays", x.count(15), 1);
        CHECK.same("4: ROWS stay", x.row(0, 1), 2);
        CHECK.same("4: the TAPE is empty", x.count(12), 0);
        CHECK.same("4: another", told(x, "at 6 good 1 bad 0;"), 1);
        CHECK.same("4: no DECISIONS", x.count(9), 0);
        CHECK.same("4: no SAMPLE", x.count(10), 0);
        CHECK.same("4: no MONTHS", x.count(15), 0);
        CHECK.same("4: nothing to undo", x.undo(), -1);
        CHECK.text("4: OUT stays", Check.outOf(x), "5-5 2 3;");
        CHECK.same("4: its ROW", x.row(0, 0), 6);
        CHECK.same("4: no other", x.count(0), 1);
    }

    private static void promise5Sample() {
        RiskBands x = Check.pooled("at 5 good 1 bad 2;least 7;");
        CHECK.same("5: good and bad together", Check.sampled(x, "at 5 good 3 bad 4; at 9 good 99 bad 99 open 50;"), 205);
        CHECK.same("5: CASES", x.count(10), 205);
        CHECK.same("5: the POOL stays", x.count(1), 1);
        CHECK.same("5: LEAST stays", x.count(4), 7);
        CHECK.same("5: no OPEN ones", x.count(14), 0);
        CHECK.same("5: the TAPE is empty", x.count(12), 0);
        CHECK.same("5: a FAULT", Check.sampled(x, "at 5 good 3 bad 4"), -4);
        CHECK.same("5: the TAPE is empty then", x.count(12), 0);
        CHECK.same("5: the old one stays", x.count(10), 205);
        for (String word : new String[] {"least 1;", "most 1;", "cost 1 1 1;"}) {
            CHECK.same("5: " + word, Check.sampled(x, "at 5 good 3 bad 4;" + word), -4);
            CHECK.same("5: FAULT", x.fault(0), 1);
            CHECK.same("5: its place", x.fault(1), 18);
        }
        CHECK.same("5: none", Check.sampled(x, ""), 0);
        CHECK.same("5: in place of the other", x.count(10), 0);
        CHECK.same("5: one of no CASES", Check.sampled(x, "at 5 good 0 bad 0;"), 0);
        CHECK.same("5: no act", x.count(11), 0);
    }

    private static void promise6Fault() {
        RiskBands x = new RiskBands();
        CHECK.same("6: ahead of any", x.fault(0), 0);
        CHECK.same("6: ahead of any", x.fault(1), -1);
        CHECK.same("6: no such what", x.fault(2), -1);
        CHECK.same("6: no such what", x.fault(-1), -1);
        told(x, " ?");
        CHECK.same("6: pool()", x.fault(0), 1);
        CHECK.same("6: its place", x.fault(1), 1);
        Check.sampled(x, "at 1000");
        CHECK.same("6: sample()", x.fault(0), 2);
        CHECK.same("6: its place", x.fault(1), 3);
        Check.sampled(x, "");
        CHECK.same("6: without", x.fault(0), 0);
        CHECK.same("6: without", x.fault(1), -1);
    }

    private static void faultOne() {
        isFault("at", 1, 2);
        isFault("at \n ", 1, 5);
        isFault(";", 1, 0);
        isFault("at 1 good 1 bad 1;;", 1, 18);
        isFault("at 1 good 1 bad 1 open 1 open 1;", 1, 25);
        isFault("at 1 bad 1 good 1;", 1, 5);
        isFault("at 1 good 1 bad 1 least 1;", 1, 18);
        isFault("at 1 good 1 open 1 bad 1;", 1, 12);
        isFault("good 1;", 1, 0);
        isFault("atgood 1;", 1, 0);
        isFault("least 1 1;", 1, 8);
        isFault("cost 1 1;", 1, 8);
        isFault("cost 1 1 1 1;", 1, 11);
        isFault("At 1 good 1 bad 1;", 1, 0);
        isFault("at -1 good 1 bad 1;", 1, 3);
        isFault("at 1\tgood 1 bad 1;", 1, 4);
        isFault("at 1 good 1 bad 1;\u00e9", 1, 18);
        isFault("at 1 good 1 bad 1;\0", 1, 18);
        isFault("lea st 1;", 1, 0);
        isFault("5;", 1, 0);
        isFault("atz 1 good 1 bad 1;", 1, 0);
        isFault("ata 1 good 1 bad 1;", 1, 0);
        isFault("at 1 good 1 bad 1 z;", 1, 18);
        isFault("at 1 good 1 bad 1;{", 1, 18);
        isFault("at 1 good 1 bad 1:", 1, 17);
        isFault("at 1/ good 1 bad 1;", 1, 4);
        isFault("`", 1, 0);
        isFault("at 1 2 good 1 bad 1;", 1, 5);
    }

    private static void faultTwo() {
        isFault("at 1000 good 100 bad 1;", 2, 3);
        isFault("at 999 good 100 bad 100;", 2, 12);
        isFault("at 999 good 99 bad 100 x", 2, 19);
        isFault("at 1 good 1 bad 1 open 100;", 2, 23);
        isFault("least 10000;", 2, 6);
        isFault("most 0;", 2, 5);
        isFault("most 61;", 2, 5);
        isFault("cost 1000 1 1;", 2, 5);
        isFault("cost 1 1000 1;", 2, 7);
        isFault("cost 1 1 1000;", 2, 9);
        isFault("at 4294967297 good 1 bad 1;", 2, 3);
        isFault("at 18446744073709551617 good 1 bad 1;", 2, 3);
        CHECK.same("2: many noughts", told(new RiskBands(), "least 00000000000000000009999;most 060;"), 2);
    }

    private static void faultThree() {
        isFault("at 1 good 1 bad 1;at 01 good 1 bad 1;", 3, 21);
        isFault("at 1 good 0 bad 0;at 1 good x", 3, 21);
        isFault("least 1;least 99999;", 3, 8);
        isFault("most 1;least 1;most 1;", 3, 15);
        isFault("cost 1 1 1;cost;", 3, 11);
    }

    private static void faultFour() {
        StringBuilder text = new StringBuilder();
        for (int i = 0; i < 60; i++) {
            text.append("at ").append(i).append(" good 0 bad 0;");
        }
        CHECK.same("4: sixty", told(new RiskBands(), text.toString()), 60);
        CHECK.same("4: sixty and LEAST", told(new RiskBands(), text + "least 1;"), 61);
        isFault(text + "\nat 0 good 1", 4, text.length() + 1);
        RiskBands x = new RiskBands();
        CHECK.same("4: in a SAMPLE", Check.sampled(x, text + "at 1000 good 1 bad 1;"), -4);
        CHECK.same("4: in a SAMPLE", x.fault(0), 4);
        CHECK.same("4: its place", x.fault(1), text.length());
    }

    private static int told(RiskBands x, String text) {
        Check.feed(x, text);
        return x.pool();
    }

    private static void isFault(String text, int kind, int place) {
        RiskBands x = new RiskBands();
        CHECK.same("pool of " + text, told(x, text), -4);
        CHECK.same("FAULT of " + text, x.fault(0), kind);
        CHECK.same("place of " + text, x.fault(1), place);
    }
}
