import java.lang.management.ManagementFactory;
import java.lang.reflect.InvocationTargetException;
import java.lang.reflect.Method;
import java.lang.reflect.Modifier;
import java.util.ArrayList;
import java.util.Arrays;
import java.util.List;

/** No call ever throws, whatever its arguments and the state; and a run of dear calls keeps to its room. */
public final class GuardTest {
    private static final Check CHECK = new Check("guard");
    private static final int[] EDGES = {Integer.MIN_VALUE, Integer.MIN_VALUE + 1, -1000, -100, -99, -2, -1, 0, 1, 2, 3,
        7, 11, 12, 13, 39, 40, 59, 60, 61, 99, 100, 998, 999, 1000, 1001, 2000, 9999, 10000, Integer.MAX_VALUE};
    private static final int[] FEW_EDGES = {Integer.MIN_VALUE, -99, -1, 0, 1, 2, 60, 99, 999, 1000, Integer.MAX_VALUE};

    public static void main(String[] args) throws ReflectiveOperationException {
        for (Method method : RiskBands.class.getDeclaredMethods()) {
            if (Modifier.isPublic(method.getModifiers())) {
                for (int state = 0; state < 5; state++) {
                    callAll(method, state);
                }
            }
        }
        strangeBytes();
        roomOfDearCalls();
        CHECK.close();
    }

    private static String rows(int many, String counts) {
        StringBuilder text = new StringBuilder();
        for (int i = 0; i < many; i++) {
            text.append("at ").append(999 - i * 16).append(counts);
        }
        // without blanks, as sixty LINES would be too long for the TAPE
        return text.toString().replace(" ", "");
    }

    private static RiskBands inState(int state) {
        switch (state) {
            case 0:
                return new RiskBands();
            case 1:
                return Check.pooled(rows(60, " good 0 bad 0 open 1;"));
            case 2:
                return Check.pooled(rows(1, " good 0 bad 1;"));
            case 3:
                return Check.pooled(rows(60, " good 9 bad 9;"));
            default:
                return busy();
        }
    }

    private static RiskBands busy() {
        StringBuilder text = new StringBuilder();
        for (int i = 0; i < 60; i++) {
            text.append("at ").append(i * 16).append(" good ").append(39 + i).append(" bad ").append(99 - i).append(";");
        }
        RiskBands x = Check.pooled(text.toString().replace(" ", ""));
        for (int i = 0; i < 12; i++) {
            Check.sampled(x, rows(i + 1, " good 99 bad 99;"));
            x.month();
        }
        for (int i = 0; i < 40; i++) {
            x.decide(i * 16, 1 + i % 2);
        }
        for (int i = 0; i < 30; i++) {
            x.outcome(i, i % 3 == 0 ? 1 : 0);
        }
        x.tell();
        return x;
    }

    private static void callAll(Method method, int state) throws ReflectiveOperationException {
        RiskBands x = inState(state);
        Class<?>[] types = method.getParameterTypes();
        int[] edges = types.length < 3 ? EDGES : FEW_EDGES;
        int[] at = new int[types.length];
        List<String> thrown = new ArrayList<>();
        boolean more = true;
        for (int n = 0; more && n < 3000; n++) {
            // an object is used for 512 calls, of which making it takes some 270
            if (n % 100 == 99) {
                x = inState(state);
            }
            Object[] values = new Object[types.length];
            for (int i = 0; i < types.length; i++) {
                values[i] = types[i] == long.class ? (Object) (long) edges[at[i]] : (Object) edges[at[i]];
            }
            try {
                method.invoke(x, values);
                // ROWS and BANDS are made anew behind a change only when they are asked for
                x.count(3);
            } catch (InvocationTargetException found) {
                thrown.add(method.getName() + Arrays.toString(values) + " " + found.getCause());
            }
            more = step(at, edges.length);
        }
        CHECK.text(method.getName() + " in state " + state, thrown.toString(), "[]");
    }

    private static boolean step(int[] at, int bound) {
        for (int i = 0; i < at.length; i++) {
            at[i]++;
            if (at[i] < bound) {
                return true;
            }
            at[i] = 0;
        }
        return false;
    }

    private static void strangeBytes() {
        for (int value = 0; value < 256; value++) {
            RiskBands x = new RiskBands();
            boolean isBlank = value == 32 || value == 10;
            Check.feed(x, Character.toString((char) value));
            CHECK.same("pool() of byte " + value, x.pool(), isBlank ? 0 : -4);
            CHECK.same("its FAULT", x.fault(0), isBlank ? 0 : 1);
            CHECK.same("its place", x.fault(1), isBlank ? -1 : 0);
        }
        RiskBands x = new RiskBands();
        for (int i = 0; i < 80; i++) {
            x.feed(0x39393939, 0x39393939, 0x39393939, 0x39393939, 0x39393939);
        }
        CHECK.same("1600 digits", x.pool(), -4);
        CHECK.same("can't stand there", x.fault(0), 1);
    }

    /** Bytes of a run's objects are far fewer than its room of 7.3 million elements would take. */
    private static void roomOfDearCalls() {
        com.sun.management.ThreadMXBean meter = (com.sun.management.ThreadMXBean) ManagementFactory.getThreadMXBean();
        long before = meter.getCurrentThreadAllocatedBytes();
        RiskBands x = new RiskBands();
        for (int i = 0; i < 60; i++) {
            x.adds(i * 16, 99 - i, 99);
        }
        long answers = 0;
        for (int i = 0; i < 50; i++) {
            x.adds(0, i % 2 == 0 ? -1 : 1, 0);
            answers += x.split(60) + x.resample(i, 2) + x.drift(0) + x.two(2) + x.tell() + x.chi() + x.learn();
            answers += x.sample();
        }
        long used = meter.getCurrentThreadAllocatedBytes() - before;
        CHECK.same("room taken: " + used + " bytes (" + answers + ")", used < 1000000 ? 0 : used, 0);
    }
}
