import java.util.LinkedHashMap;
import java.util.Map;
import java.util.function.ToLongFunction;

/** Calls that only ask, each what of each kind, by how they are written. */
final class Asking {
    private final Map<String, ToLongFunction<RiskBands>> calls = new LinkedHashMap<>();

    private interface OfWhat {
        long ask(RiskBands x, int what);
    }

    static Map<String, ToLongFunction<RiskBands>> calls() {
        Asking asking = new Asking();
        asking.putBands();
        asking.putCuts();
        asking.putSamples();
        asking.putActs();
        return asking.calls;
    }

    /** A call for each what from 0 on; # stands for it in the name. */
    private void putEach(String name, int many, OfWhat asked) {
        for (int i = 0; i < many; i++) {
            int what = i;
            calls.put(name.replace("#", Integer.toString(what)), x -> asked.ask(x, what));
        }
    }

    private void putBands() {
        putEach("count(#)", 18, (x, what) -> x.count(what));
        putEach("row(1, #)", 4, (x, what) -> x.row(1, what));
        putEach("row(3, #)", 4, (x, what) -> x.row(3, what));
        putEach("band(0, #)", 8, (x, what) -> x.band(0, what));
        putEach("band(2, #)", 8, (x, what) -> x.band(2, what));
        calls.put("bandOf(12)", x -> x.bandOf(12));
        putEach("rate(1, #)", 4, (x, what) -> x.rate(1, what));
        calls.put("error()", x -> x.error());
        calls.put("joint(0)", x -> x.joint(0));
        putEach("auc(#)", 2, (x, what) -> x.auc(what));
        putEach("ks(#)", 3, (x, what) -> x.ks(what));
        putEach("hull(1, #)", 2, (x, what) -> x.hull(1, what));
        putEach("hull(4, #)", 2, (x, what) -> x.hull(4, what));
        putEach("mixed(11, #)", 2, (x, what) -> x.mixed(11, what));
        calls.put("inversions()", x -> x.inversions());
    }

    private void putCuts() {
        calls.put("cost(9)", x -> x.cost(9));
        putEach("cut(#)", 2, (x, what) -> x.cut(what));
        calls.put("refer(6, 19)", x -> x.refer(6, 19));
        putEach("two(#)", 3, (x, what) -> x.two(what));
        calls.put("would(7, 8)", x -> x.would(7, 8));
        calls.put("limit(400)", x -> x.limit(400));
        calls.put("accepts(400)", x -> x.accepts(400));
        calls.put("capture(400)", x -> x.capture(400));
        calls.put("median()", x -> x.median());
        putEach("between(5, 15, #)", 3, (x, what) -> x.between(5, 15, what));
        putEach("split(#)", 5, (x, what) -> x.split(what));
        putEach("splitAt(2, #)", 2, (x, what) -> x.splitAt(2, what));
    }

    private void putSamples() {
        putEach("drift(#)", 3, (x, what) -> x.drift(what));
        calls.put("chi()", x -> x.chi());
        putEach("mean(#)", 4, (x, what) -> x.mean(what));
        putEach("resample(9, #)", 3, (x, what) -> x.resample(9, what));
        putEach("off(0, #)", 2, (x, what) -> x.off(0, what));
        putEach("share(0, #)", 3, (x, band) -> x.share(0, band));
        calls.put("alarm(9)", x -> x.alarm(9));
        putEach("rises(#)", 2, (x, band) -> x.rises(band));
    }

    private void putActs() {
        putEach("fault(#)", 2, (x, what) -> x.fault(what));
        calls.put("octet(0)", x -> x.octet(0));
        calls.put("open(10)", x -> x.open(10));
        putEach("decision(0, #)", 5, (x, what) -> x.decision(0, what));
        putEach("overrides(#)", 4, (x, what) -> x.overrides(what));
    }
}
