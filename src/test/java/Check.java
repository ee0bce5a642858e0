import java.nio.charset.StandardCharsets;

/** Counts answers that are not as due, prints each, and ends a test with exit code 1 if there was one. */
final class Check {
    private final String name;
    private int made;
    private int wrong;

    Check(String name) {
        this.name = name;
    }

    void same(String call, long got, long due) {
        made++;
        if (got != due) {
            wrong++;
            System.out.println(name + ": " + call + " answered " + got + ", due is " + due);
        }
    }

    void text(String call, String got, String due) {
        made++;
        if (!got.equals(due)) {
            wrong++;
            System.out.println(name + ": " + call + " answered " + got + ", due is " + due);
        }
    }

    int wrong() {
        return wrong;
    }

    void close() {
        System.out.println(name + ": " + made + " answers, " + wrong + " wrong");
        if (wrong != 0 || made == 0) {
            System.exit(1);
        }
    }

    /** Feeds a text to the TAPE, one byte a character, and cuts the TAPE behind it. */
    static void feed(RiskBands x, String text) {
        byte[] bytes = text.getBytes(StandardCharsets.ISO_8859_1);
        int before = x.count(12);
        for (int i = 0; i < bytes.length; i += 20) {
            x.feed(word(bytes, i), word(bytes, i + 4), word(bytes, i + 8), word(bytes, i + 12), word(bytes, i + 16));
        }
        if (x.end(before + bytes.length) < 0) {
            throw new IllegalArgumentException("too long for the TAPE: " + text);
        }
    }

    private static int word(byte[] bytes, int from) {
        int word = 0;
        for (int i = from; i < from + 4; i++) {
            word = word << 8 | (i < bytes.length ? bytes[i] & 255 : 0);
        }
        return word;
    }

    static RiskBands pooled(String text) {
        RiskBands x = new RiskBands();
        feed(x, text);
        if (x.pool() < 0) {
            throw new IllegalArgumentException("FAULT " + x.fault(0) + " at " + x.fault(1) + ": " + text);
        }
        return x;
    }

    static int sampled(RiskBands x, String text) {
        feed(x, text);
        return x.sample();
    }

    static String outOf(RiskBands x) {
        StringBuilder text = new StringBuilder();
        for (int i = 0; i < x.count(16); i++) {
            text.append((char) x.octet(i));
        }
        return text.toString();
    }

    static long bits(double value) {
        return Double.doubleToLongBits(value);
    }
}
