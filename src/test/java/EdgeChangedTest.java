import java.util.Set;
import java.util.function.Supplier;

/** What is asked at once behind a change is told of what there is then, as by an object that was made so. */
public final class EdgeChangedTest {
    private static final Check CHECK = new Check("changes");
    private static final String REST = "at 500 good 0 bad 0 open 7;at 999 good 9 bad 0;";
    private static final String FIVE = "at 5 good 3 bad 9;";
    private static final String TEN = "at 10 good 4 bad 4 open 2;";
    private static final String TWENTY = "at 20 good 5 bad 1;";
    private static final String SETTINGS = "least 2;most 9;cost 20 300 11;";
    private static final String START = FIVE + TEN + TWENTY + REST + SETTINGS;
    /** What tells of DECISIONS and acts, which an object that was made so has not. */
    private static final Set<String> OF_ACTS = Set.of("count(9)", "count(11)", "decision(0, 0)", "decision(0, 1)",
            "decision(0, 2)", "decision(0, 3)", "decision(0, 4)", "overrides(0)", "overrides(1)", "overrides(2)", "overrides(3)");

    private interface Change {
        long on(RiskBands x);
    }

    public static void main(String[] args) {
        CHECK.says(49, "So many GOOD, BAD ones more (-99 .. 99; fewer below 0) at a SCORE");
        isThen("adds(10, 1, -4)", x -> x.adds(10, 1, -4),
                FIVE + "at 10 good 5 bad 0 open 2;" + TWENTY + REST + SETTINGS);
        isThen("adds(7, 99, 1)", x -> x.adds(7, 99, 1), START + "at 7 good 99 bad 1;");
        isThen("adds(999, -9, 0)", x -> x.adds(999, -9, 0),
                FIVE + TEN + TWENTY + "at 500 good 0 bad 0 open 7;" + SETTINGS);
        CHECK.says(50, "LEAST (what 0: 0 .. 9999), MOST (1: 1 .. 60)");
        isThen("sets(0, 9)", x -> x.sets(0, 9), START.replace("least 2", "least 9"));
        isThen("sets(0, 9999)", x -> x.sets(0, 9999), START.replace("least 2", "least 9999"));
        isThen("sets(1, 2)", x -> x.sets(1, 2), START.replace("most 9", "most 2"));
        isThen("sets(1, 1)", x -> x.sets(1, 1), START.replace("most 9", "most 1"));
        CHECK.says(51, "COSTS (0 .. 999 each): 1 if any is another one");
        isThen("costs(1, 1, 999)", x -> x.costs(1, 1, 999), START.replace("cost 20 300 11", "cost 1 1 999"));
        isThen("costs(0, 0, 0)", x -> x.costs(0, 0, 0), START.replace("cost 20 300 11", "cost 0 0 0"));
        CHECK.says(43, "All OPEN ones are INFERRED by m (0 .. 1000) of 100, and are OPEN no more");
        isThen("infer(100)", x -> x.infer(100), FIVE + "at 10 good 5 bad 5;" + TWENTY
                + "at 500 good 6 bad 1;at 999 good 9 bad 0;" + SETTINGS);
        CHECK.says(48, "All CASES with an OUTCOME that are not LEARNT come into the POOL");
        isThen("learn()", x -> x.learn(), FIVE + TEN + "at 20 good 5 bad 2;" + REST + SETTINGS);
        CHECK.says(4, "The TAPE (empty then) tells the POOL (in place of all there was");
        poolIsThen();
        CHECK.closeWith(4, 43, 48, 49, 50, 51);
    }

    /** With a SAMPLE, a MONTH, and a BAD OUTCOME that is not LEARNT. */
    private static RiskBands made(String text) {
        RiskBands x = Check.pooled(text);
        Check.sampled(x, "at 5 good 1 bad 2;at 20 good 1 bad 1;at 999 good 3 bad 4;");
        x.month();
        Check.sampled(x, "at 0 good 4 bad 2;at 10 good 3 bad 2;at 700 good 1 bad 2;");
        x.decide(20, 2);
        x.outcome(0, 1);
        x.count(3);
        return x;
    }

    private static void isThen(String name, Change change, String text) {
        asked(name, () -> {
            RiskBands x = made(START);
            change.on(x);
            return x;
        }, () -> made(text));
        asked(name + ", undone", () -> {
            RiskBands x = made(START);
            change.on(x);
            // all is told of the change first, so that nothing of it may stay
            x.count(3);
            x.split(2);
            x.undo();
            return x;
        }, () -> made(START));
    }

    private static void poolIsThen() {
        String text = "at 7 good 1 bad 2;at 8 good 3 bad 2;at 9 good 2 bad 0;";
        asked("pool()", () -> {
            RiskBands x = made(START);
            x.split(5);
            Check.feed(x, text);
            x.pool();
            return x;
        }, () -> {
            RiskBands x = Check.pooled(text);
            x.count(3);
            return x;
        });
    }

    private static void asked(String name, Supplier<RiskBands> changed, Supplier<RiskBands> madeSo) {
        Asking.calls().forEach((call, asked) -> {
            if (!OF_ACTS.contains(call)) {
                CHECK.same(call + " behind " + name, asked.applyAsLong(changed.get()), asked.applyAsLong(madeSo.get()));
            }
        });
    }
}
