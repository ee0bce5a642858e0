import java.util.LinkedHashMap;
import java.util.Map;
import java.util.function.Supplier;
import java.util.function.ToLongFunction;

/** A refused call changes nothing, and neither does one that only asks: all calls, in objects that hold all there is. */
public final class EdgeRefusedTest {
    private static final Check CHECK = new Check("refused calls");
    private static final long NO_SUCH = RiskBands.NO_SUCH;

    public static void main(String[] args) {
        CHECK.says(0, "A refused call changes nothing");
        refusedAnywhere().forEach((name, call) -> {
            for (Supplier<RiskBands> maker : makers()) {
                CHECK.refused(name, maker, call.asked, call.due);
            }
        });
        CHECK.says(0, "there is no such ROW, BAND, DECISION, what, number as told");
        refusedIfBusy().forEach((name, call) -> CHECK.refused(name, EdgeRefusedTest::busy, call.asked, call.due));
        CHECK.says("Not promised", "Nothing is promised beyond the answers and state changes described above");
        Asking.calls().forEach((name, asked) -> {
            for (Supplier<RiskBands> maker : makers()) {
                // what is told does not matter here, so it is asked of a twin
                CHECK.refused(name, maker, asked, asked.applyAsLong(maker.get()));
            }
        });
        CHECK.close();
    }

    private record Call(ToLongFunction<RiskBands> asked, long due) {
    }

    private static java.util.List<Supplier<RiskBands>> makers() {
        return java.util.List.of(RiskBands::new, EdgeRefusedTest::busy, EdgeRefusedTest::full);
    }

    /** Something of all that an object can hold, and a FAULT. */
    private static RiskBands busy() {
        RiskBands x = Check.pooled("at 5 good 3 bad 9;at 10 good 4 bad 4 open 2;at 20 good 5 bad 1;at 500 good 0 bad 0 open 7;"
                + "at 999 good 9 bad 0;least 2;most 9;cost 20 300 11;");
        Check.sampled(x, "at 5 good 1 bad 2;at 999 good 3 bad 4;");
        x.month();
        Check.sampled(x, "at 20 good 1 bad 2;");
        x.decide(5, 2);
        x.decide(10, 0);
        x.decide(999, 1);
        x.outcome(0, 1);
        x.learn();
        x.outcome(2, 0);
        x.tell();
        x.adds(7, 1, 1);
        x.sets(0, 3);
        x.sets(1, 3);
        x.costs(20, 300, 12);
        Check.feed(x, "at 5 good 100 bad 1;");
        x.pool();
        Check.feed(x, "least 7;");
        return x;
    }

    /** Sixty ROWS with full counts, twelve MONTHS, a full TAPE. */
    private static RiskBands full() {
        RiskBands x = Check.pooled(Check.rows(940, 60, "good 99 bad 99 open 99"));
        Check.sampled(x, Check.rows(940, 60, "good 99 bad 99"));
        for (int i = 0; i < 12; i++) {
            x.month();
        }
        Check.feed(x, " ".repeat(1600));
        return x;
    }

    private static Map<String, Call> refusedAnywhere() {
        Map<String, Call> calls = new LinkedHashMap<>();
        calls.put("end(-1)", new Call(x -> x.end(-1), -1));
        calls.put("end(1601)", new Call(x -> x.end(1601), -1));
        calls.put("fault(2)", new Call(x -> x.fault(2), -1));
        calls.put("count(18)", new Call(x -> x.count(18), -1));
        calls.put("row(60, 0)", new Call(x -> x.row(60, 0), -2));
        calls.put("row(0, 4)", new Call(x -> x.row(0, 4), -2));
        calls.put("band(60, 0)", new Call(x -> x.band(60, 0), -2));
        calls.put("band(0, 8)", new Call(x -> x.band(0, 8), -2));
        calls.put("bandOf(1000)", new Call(x -> x.bandOf(1000), -2));
        calls.put("rate(60, 0)", new Call(x -> x.rate(60, 0), NO_SUCH));
        calls.put("rate(0, 4)", new Call(x -> x.rate(0, 4), NO_SUCH));
        calls.put("joint(59)", new Call(x -> x.joint(59), NO_SUCH));
        calls.put("auc(2)", new Call(x -> x.auc(2), NO_SUCH));
        calls.put("ks(3)", new Call(x -> x.ks(3), NO_SUCH));
        calls.put("hull(-1, 0)", new Call(x -> x.hull(-1, 0), -2));
        calls.put("hull(61, 0)", new Call(x -> x.hull(61, 0), -1));
        calls.put("cost(1001)", new Call(x -> x.cost(1001), -2));
        calls.put("cut(2)", new Call(x -> x.cut(2), -2));
        calls.put("refer(1, 0)", new Call(x -> x.refer(1, 0), -2));
        calls.put("two(3)", new Call(x -> x.two(3), -2));
        calls.put("would(1000, 0)", new Call(x -> x.would(1000, 0), -2));
        calls.put("limit(1001)", new Call(x -> x.limit(1001), -2));
        calls.put("accepts(1001)", new Call(x -> x.accepts(1001), -2));
        calls.put("capture(1001)", new Call(x -> x.capture(1001), -2));
        calls.put("drift(3)", new Call(x -> x.drift(3), NO_SUCH));
        calls.put("mean(4)", new Call(x -> x.mean(4), NO_SUCH));
        calls.put("mixed(5941, 0)", new Call(x -> x.mixed(5941, 0), NO_SUCH));
        calls.put("mixed(0, 2)", new Call(x -> x.mixed(0, 2), NO_SUCH));
        calls.put("resample(1, 3)", new Call(x -> x.resample(1, 3), NO_SUCH));
        calls.put("between(0, 1001, 0)", new Call(x -> x.between(0, 1001, 0), -2));
        calls.put("between(0, 1, 3)", new Call(x -> x.between(0, 1, 3), -2));
        calls.put("split(61)", new Call(x -> x.split(61), NO_SUCH));
        calls.put("splitAt(61, 0)", new Call(x -> x.splitAt(61, 0), -2));
        calls.put("off(12, 0)", new Call(x -> x.off(12, 0), NO_SUCH));
        calls.put("off(0, 2)", new Call(x -> x.off(0, 2), NO_SUCH));
        calls.put("share(12, 0)", new Call(x -> x.share(12, 0), -2));
        calls.put("share(0, 60)", new Call(x -> x.share(0, 60), -2));
        calls.put("alarm(2001)", new Call(x -> x.alarm(2001), -2));
        calls.put("rises(60)", new Call(x -> x.rises(60), -2));
        calls.put("octet(1080)", new Call(x -> x.octet(1080), -1));
        calls.put("open(1000)", new Call(x -> x.open(1000), -2));
        calls.put("infer(1001)", new Call(x -> x.infer(1001), -2));
        calls.put("decide(1000, 0)", new Call(x -> x.decide(1000, 0), -2));
        calls.put("decide(0, 3)", new Call(x -> x.decide(0, 3), -2));
        calls.put("decision(40, 0)", new Call(x -> x.decision(40, 0), -2));
        calls.put("decision(0, 5)", new Call(x -> x.decision(0, 5), -2));
        calls.put("outcome(40, 0)", new Call(x -> x.outcome(40, 0), -2));
        calls.put("outcome(0, 2)", new Call(x -> x.outcome(0, 2), -2));
        calls.put("overrides(4)", new Call(x -> x.overrides(4), -2));
        calls.put("adds(1000, 1, 1)", new Call(x -> x.adds(1000, 1, 1), -2));
        calls.put("adds(0, 100, 1)", new Call(x -> x.adds(0, 100, 1), -2));
        calls.put("adds(0, 1, -100)", new Call(x -> x.adds(0, 1, -100), -2));
        calls.put("adds(0, -1, 1)", new Call(x -> x.adds(0, -1, 1), -5));
        calls.put("sets(0, 10000)", new Call(x -> x.sets(0, 10000), -2));
        calls.put("sets(1, 61)", new Call(x -> x.sets(1, 61), -2));
        calls.put("sets(2, 1)", new Call(x -> x.sets(2, 1), -2));
        calls.put("costs(1, 1, 1000)", new Call(x -> x.costs(1, 1, 1000), -2));
        return calls;
    }

    private static Map<String, Call> refusedIfBusy() {
        Map<String, Call> calls = new LinkedHashMap<>();
        calls.put("end(9)", new Call(x -> x.end(9), -1));
        calls.put("row(5, 0)", new Call(x -> x.row(5, 0), -2));
        calls.put("row(-1, 0)", new Call(x -> x.row(-1, 0), -2));
        calls.put("band(3, 0)", new Call(x -> x.band(3, 0), -2));
        calls.put("rate(3, 0)", new Call(x -> x.rate(3, 0), NO_SUCH));
        calls.put("joint(2)", new Call(x -> x.joint(2), NO_SUCH));
        calls.put("hull(6, 0)", new Call(x -> x.hull(6, 0), -1));
        calls.put("mixed(23, 0)", new Call(x -> x.mixed(23, 0), NO_SUCH));
        calls.put("split(6)", new Call(x -> x.split(6), NO_SUCH));
        calls.put("split(0)", new Call(x -> x.split(0), NO_SUCH));
        calls.put("splitAt(5, 5)", new Call(x -> x.splitAt(5, 5), -2));
        calls.put("off(1, 0)", new Call(x -> x.off(1, 0), NO_SUCH));
        calls.put("share(1, 0)", new Call(x -> x.share(1, 0), -2));
        calls.put("share(0, 3)", new Call(x -> x.share(0, 3), -2));
        calls.put("rises(3)", new Call(x -> x.rises(3), -2));
        calls.put("decision(3, 0)", new Call(x -> x.decision(3, 0), -2));
        calls.put("outcome(3, 0)", new Call(x -> x.outcome(3, 0), -2));
        calls.put("outcome(1, 0)", new Call(x -> x.outcome(1, 0), -5));
        calls.put("outcome(2, 1)", new Call(x -> x.outcome(2, 1), -5));
        calls.put("adds(5, 97, 0)", new Call(x -> x.adds(5, 97, 0), -5));
        calls.put("adds(5, 0, 90)", new Call(x -> x.adds(5, 0, 90), -5));
        return calls;
    }
}
