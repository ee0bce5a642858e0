import java.nio.charset.StandardCharsets;
import java.util.TreeSet;
import java.util.function.IntToLongFunction;
import java.util.function.Supplier;
import java.util.function.ToLongFunction;

/** Counts answers that are not as due, prints each, and ends a test with exit code 1 if there was one. */
final class Check {
    private final String name;
    private final TreeSet<String> named = new TreeSet<>();
    private Doc doc;
    private String sentence = "";
    private int madeBefore;
    private int made;
    private int wrong;

    Check(String name) {
        this.name = name;
    }

    /** As says() below, of a promise, or of Terms (0). */
    void says(int promise, String words) {
        says(promise == 0 ? "Terms" : "Promise " + promise, words);
    }

    /** Names the sentence of the document that the answers from here on are due by. */
    void says(String section, String words) {
        endSentence();
        if (doc == null) {
            doc = new Doc();
        }
        named.add(section);
        sentence = section + " says: " + words + "\n   ";
        if (!doc.holds(section, words)) {
            fail(section + " does not say: " + words);
        }
        madeBefore = made;
    }

    private void endSentence() {
        if (!sentence.isEmpty() && made == madeBefore) {
            fail(sentence + "nothing was asked");
        }
        sentence = "";
    }

    /** Ends a test of sentences: of each of these promises one was named at least. */
    void closeWith(int... promises) {
        endSentence();
        for (int promise : promises) {
            if (!named.contains("Promise " + promise)) {
                fail("no sentence of promise " + promise + " was named");
            }
        }
        close();
    }

    void same(String call, long got, long due) {
        made++;
        if (got != due) {
            fail(call + " answered " + got + ", due is " + due);
        }
    }

    void text(String call, String got, String due) {
        made++;
        if (!got.equals(due)) {
            fail(call + " answered " + got + ", due is " + due);
        }
    }

    private void fail(String what) {
        wrong++;
        System.out.println(name + ": " + sentence + what);
    }

    /** Just outside of low .. high, and far outside, each answer is this one; at both bounds it is not. */
    void within(String call, int low, int high, long outside, IntToLongFunction asked) {
        for (int v : new int[] {low - 1, high + 1, Integer.MIN_VALUE, Integer.MAX_VALUE}) {
            same(call + " with " + v, asked.applyAsLong(v), outside);
        }
        for (int v : new int[] {low, high}) {
            long got = asked.applyAsLong(v);
            made++;
            if (got == outside) {
                fail(call + " with " + v + " answered " + got);
            }
        }
    }

    /** A call that is refused leaves all as it is in an object that was not asked. */
    void refused(String call, Supplier<RiskBands> maker, ToLongFunction<RiskBands> asked, long due) {
        RiskBands x = maker.get();
        same(call, asked.applyAsLong(x), due);
        text(call + " leaves", Look.at(x), Look.at(maker.get()));
    }

    int wrong() {
        return wrong;
    }

    void close() {
        System.out.println(name + ": " + made + " answers, " + wrong + " wrong");
        if (wrong != 0 || made == 0) {
            System.exit(1);
        }
    }

    /** Feeds a text to the TAPE, one byte a character, and cuts the TAPE behind it. */
    static void feed(RiskBands x, String text) {
        byte[] bytes = text.getBytes(StandardCharsets.ISO_8859_1);
        int before = x.count(12);
        for (int i = 0; i < bytes.length; i += 20) {
            x.feed(word(bytes, i), word(bytes, i + 4), word(bytes, i + 8), word(bytes, i + 12), word(bytes, i + 16));
        }
        if (x.end(before + bytes.length) < 0) {
            throw new IllegalArgumentException("too long for the TAPE: " + text);
        }
    }

    private static int word(byte[] bytes, int from) {
        int word = 0;
        for (int i = from; i < from + 4; i++) {
            word = word << 8 | (i < bytes.length ? bytes[i] & 255 : 0);
        }
        return word;
    }

    static RiskBands pooled(String text) {
        RiskBands x = new RiskBands();
        feed(x, text);
        if (x.pool() < 0) {
            throw new IllegalArgumentException("FAULT " + x.fault(0) + " at " + x.fault(1) + ": " + text);
        }
        return x;
    }

    static int sampled(RiskBands x, String text) {
        feed(x, text);
        return x.sample();
    }

    /** An at-LINE for each SCORE from first on, each by the same counts; without blanks, as the TAPE is short. */
    static String rows(int first, int many, String counts) {
        StringBuilder text = new StringBuilder();
        for (int i = 0; i < many; i++) {
            text.append("at").append(first + i).append(counts.replace(" ", "")).append(';');
        }
        return text.toString();
    }

    /** Sixty ROWS from SCORE 100 on, each with a lesser RATE than the one ahead: 99/139 .. 40/139. */
    static String falling() {
        StringBuilder text = new StringBuilder();
        for (int i = 0; i < 60; i++) {
            text.append(rows(100 + i, 1, "good " + (40 + i) + " bad " + (99 - i)));
        }
        return text.toString();
    }

    static String outOf(RiskBands x) {
        return outOf(x, 0, x.count(16));
    }

    static String outOf(RiskBands x, int from, int to) {
        StringBuilder text = new StringBuilder();
        for (int i = from; i < to; i++) {
            text.append((char) x.octet(i));
        }
        return text.toString();
    }

    static long bits(double value) {
        return Double.doubleToLongBits(value);
    }
}
