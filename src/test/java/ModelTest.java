import java.lang.reflect.InvocationTargetException;
import java.lang.reflect.Method;
import java.util.ArrayList;
import java.util.Arrays;
import java.util.List;
import java.util.Random;
import java.util.TreeMap;

/** Runs of random calls, the same each time, on RiskBands and on the Model: no answer may differ. */
public final class ModelTest {
    private static final int RUNS = 400;
    /** Behind so many calls the document promises nothing about an object. */
    private static final int CALLS_OF_AN_OBJECT = 512;

    /** Of each call how often it comes, and what its arguments are like (see argument()). */
    private static final String[] CALLS = {
        "fault 1 w", "count 3 w", "row 2 r w", "band 4 b w", "bandOf 2 s", "rate 2 b w", "error 2", "joint 2 b",
        "auc 1 w", "ks 2 w", "hull 2 b w", "cost 2 c", "cut 2 w", "refer 2 c c", "two 3 w", "would 2 v v",
        "limit 2 m", "accepts 2 m", "capture 2 m", "drift 3 w", "chi 2", "mean 2 w", "median 1", "mixed 3 g w",
        "resample 2 l w", "inversions 1", "between 2 c c w", "split 1 r", "splitAt 1 r r", "month 2", "off 2 t w",
        "share 2 t b", "alarm 2 m", "rises 2 b", "tell 1", "octet 2 o", "open 1 s", "infer 3 m", "decide 6 s w",
        "decision 2 t w", "outcome 6 t w", "overrides 2 w", "learn 2", "adds 8 s n n", "sets 4 w a", "costs 2 v v v",
        "undo 6", "end 1 o",
    };

    private final Random random;
    private final TreeMap<String, Method> real = new TreeMap<>();
    private final TreeMap<String, Method> model = new TreeMap<>();
    private final List<String> deck = new ArrayList<>();
    private final List<Integer> scores = new ArrayList<>();
    private int rowsWanted;
    private int asked;

    private ModelTest(long seed) {
        random = new Random(seed);
        for (Method method : RiskBands.class.getDeclaredMethods()) {
            real.put(method.getName(), method);
        }
        for (Method method : Model.class.getDeclaredMethods()) {
            if (java.lang.reflect.Modifier.isPublic(method.getModifiers())) {
                model.put(method.getName(), method);
            }
        }
        for (String call : CALLS) {
            for (int i = Integer.parseInt(call.split(" ")[1]); i > 0; i--) {
                deck.add(call);
            }
        }
    }

    public static void main(String[] args) throws ReflectiveOperationException {
        Check check = new Check("model");
        int runs = args.length > 0 ? Integer.parseInt(args[0]) : RUNS;
        long from = args.length > 1 ? Long.parseLong(args[1]) : 0;
        for (int run = 0; run < runs && check.wrong() < 20; run++) {
            new ModelTest(from + run).run(check, run);
        }
        check.close();
    }

    private void run(Check check, int run) throws ReflectiveOperationException {
        RiskBands x = new RiskBands();
        Model y = new Model();
        rowsWanted = pick(1, 3, 6, 12, 30, 60);
        for (int i = 0; i < rowsWanted + 2; i++) {
            scores.add(random.nextInt(8) == 0 ? pick(0, 999, 1, 998) : random.nextInt(pick(20, 100, 1000)));
        }
        int calls = pick(40, 100, 250);
        for (int n = 0; n < calls; n++) {
            boolean text = n == 0 ? random.nextInt(10) > 0 : random.nextInt(25) == 0;
            int wrong = check.wrong();
            if (text) {
                tellText(check, x, y, n > 0 && random.nextInt(3) > 0);
            } else {
                String[] call = deck.get(random.nextInt(deck.size())).split(" ");
                Object[] values = new Object[call.length - 2];
                for (int i = 0; i < values.length; i++) {
                    values[i] = argument(call[i + 2].charAt(0));
                }
                ask(check, x, y, call[0], values);
            }
            if (check.wrong() > wrong) {
                System.out.println("   in run " + run + ", call " + n);
                return;
            }
            if (asked >= CALLS_OF_AN_OBJECT) {
                return;
            }
        }
    }

    private long ask(Check check, RiskBands x, Model y, String name, Object... values)
            throws ReflectiveOperationException {
        if (asked >= CALLS_OF_AN_OBJECT) {
            return 0;
        }
        asked++;
        String call = name + Arrays.toString(values);
        try {
            long due = ((Number) model.get(name).invoke(y, values)).longValue();
            long got = ((Number) real.get(name).invoke(x, values)).longValue();
            check.same(call, got, due);
            return got;
        } catch (InvocationTargetException thrown) {
            thrown.getCause().printStackTrace(System.out);
            check.text(call, "a throw", "an answer");
            return 0;
        }
    }

    private void tellText(Check check, RiskBands x, Model y, boolean isSample) throws ReflectiveOperationException {
        byte[] bytes = marred(isSample ? sampleText() : poolText()).getBytes(
                java.nio.charset.StandardCharsets.ISO_8859_1);
        long before = ask(check, x, y, "count", 12);
        for (int i = 0; i < bytes.length; i += 20) {
            Object[] words = new Object[5];
            for (int k = 0; k < 5; k++) {
                int word = 0;
                for (int b = 0; b < 4; b++) {
                    int at = i + 4 * k + b;
                    word = word << 8 | (at < bytes.length ? bytes[at] & 255 : 0);
                }
                words[k] = word;
            }
            ask(check, x, y, "feed", words);
        }
        ask(check, x, y, "end", (int) before + bytes.length);
        ask(check, x, y, isSample ? "sample" : "pool");
        ask(check, x, y, "fault", 0);
        ask(check, x, y, "fault", 1);
    }

    private String poolText() {
        List<String> lines = new ArrayList<>();
        int top = pick(2, 9, 99);
        for (int i = 0; i < rowsWanted; i++) {
            String open = random.nextInt(4) == 0 ? " open " + random.nextInt(pick(2, 20, 100)) : "";
            lines.add("at " + scores.get(i) + " good " + random.nextInt(top + 1) + " bad "
                    + random.nextInt(random.nextInt(3) == 0 ? top + 1 : top / 3 + 1) + open);
        }
        if (random.nextInt(2) == 0) {
            lines.add(random.nextInt(lines.size() + 1), "least " + random.nextInt(pick(5, 50, 10000)));
        }
        if (random.nextInt(2) == 0) {
            lines.add(random.nextInt(lines.size() + 1), "most " + (1 + random.nextInt(pick(5, 20, 60))));
        }
        if (random.nextInt(2) == 0) {
            lines.add("cost " + random.nextInt(10) + " " + random.nextInt(pick(10, 1000)) + " " + random.nextInt(6));
        }
        return join(lines);
    }

    private String sampleText() {
        List<String> lines = new ArrayList<>();
        for (int i = random.nextInt(rowsWanted + 1); i > 0; i--) {
            lines.add("at " + random.nextInt(1000) + " good " + random.nextInt(9) + " bad " + random.nextInt(9));
        }
        return join(lines);
    }

    private String join(List<String> lines) {
        TreeMap<String, String> first = new TreeMap<>();
        StringBuilder text = new StringBuilder();
        for (String line : lines) {
            String head = line.startsWith("at") ? line.split(" ")[1] : line;
            // A score twice is a fault, which would leave most runs without a pool.
            if (first.put(head, line) == null || random.nextInt(40) == 0) {
                text.append(line).append(random.nextInt(5) == 0 ? " ;\n" : ";");
            }
        }
        // sixty LINES with blanks would be too long for the TAPE
        return lines.size() > 30 ? text.toString().replace(" ", "") : text.toString();
    }

    private String marred(String text) {
        StringBuilder marred = new StringBuilder(text);
        if (random.nextInt(4) == 0 && text.length() > 0) {
            int at = random.nextInt(text.length());
            switch (random.nextInt(4)) {
                case 0 -> marred.setCharAt(at, "az09; \nA-\u00e9".charAt(random.nextInt(10)));
                case 1 -> marred.deleteCharAt(at);
                case 2 -> marred.setLength(at);
                default -> marred.insert(at, pick(0, 1) == 0 ? " " : Integer.toString(random.nextInt(100)));
            }
        }
        return marred.toString();
    }

    private Object argument(char kind) {
        if (kind == 'l') {
            return random.nextInt(3) == 0 ? (long) random.nextInt(3) : random.nextLong();
        }
        if (random.nextInt(60) == 0) {
            return pick(Integer.MIN_VALUE, -1, 1000, 1001, 100, Integer.MAX_VALUE);
        }
        int score = scores.get(random.nextInt(scores.size()));
        return switch (kind) {
            case 'w' -> random.nextInt(10) == 0 ? random.nextInt(20) - 1 : random.nextInt(3);
            case 'r' -> random.nextInt(rowsWanted + 2);
            case 'b' -> random.nextInt(pick(2, 4, 10, rowsWanted + 2));
            case 's' -> random.nextInt(3) > 0 ? score : random.nextInt(1000);
            case 'c' -> random.nextInt(3) > 0 ? score + random.nextInt(2) : random.nextInt(1001);
            case 'v' -> random.nextInt(pick(4, 30, 1001));
            case 'm' -> random.nextInt(pick(3, 120, 1001, 1001, 2001));
            case 'g' -> random.nextInt(pick(3, 30, 300, 3000));
            case 't' -> random.nextInt(pick(2, 6, 13));
            case 'o' -> random.nextInt(pick(10, 100, 1000));
            case 'n' -> random.nextInt(pick(2, 5, 40, 101)) * pick(1, 1, -1);
            case 'a' -> random.nextInt(pick(3, 12, 62, 300));
            default -> throw new IllegalArgumentException("no such kind: " + kind);
        };
    }

    private int pick(int... values) {
        return values[random.nextInt(values.length)];
    }
}
