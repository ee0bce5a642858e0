/** All that can be seen of an object, as a text: two objects that look alike hold the same. */
final class Look {
    /** SCORES that tests give OPEN ones to; asking for all thousand would be more calls than an object has. */
    private static final int[] SCORES = {0, 1, 2, 5, 10, 20, 30, 59, 60, 500, 999};

    private final RiskBands x;
    private final StringBuilder seen = new StringBuilder();

    private Look(RiskBands x) {
        this.x = x;
    }

    /** Uses the object up: what can be undone is seen by undoing it. */
    static String at(RiskBands x) {
        return new Look(x).text(true);
    }

    /** As at(), but for the TAPE and the FAULT, which pool() and sample() change by being refused. */
    static String besideTheTape(RiskBands x) {
        return new Look(x).text(false);
    }

    private String text(boolean withTape) {
        if (withTape) {
            put("fault", x.fault(0), x.fault(1), x.count(12));
        }
        counts();
        int rows = x.count(0);
        int bands = x.count(3);
        int decisions = x.count(9);
        int months = x.count(15);
        for (int i = 0; i < rows; i++) {
            put("row", x.row(i, 0), x.row(i, 1), x.row(i, 2));
        }
        for (int k = 0; k < bands; k++) {
            put("band", x.band(k, 1), x.band(k, 7));
        }
        for (int i = 0; i < decisions; i++) {
            put("decision", x.decision(i, 0), x.decision(i, 1), x.decision(i, 2), x.decision(i, 3), x.decision(i, 4));
        }
        for (int i = 0; i < months; i++) {
            put("month", x.off(i, 0), x.off(i, 1), x.share(i, 0));
        }
        for (int score : SCORES) {
            put("open", x.open(score));
        }
        for (int i = 0; i < 20; i++) {
            put("octet", x.octet(i));
        }
        put("sample", x.mean(3));
        for (int n = 0; n < 12 && x.count(11) > 0; n++) {
            put("undo", x.undo(), x.count(0), x.count(1), x.count(2), x.count(4), x.count(5), x.count(6), x.count(7),
                    x.count(8), x.count(9), x.count(14), x.overrides(3));
        }
        return seen.toString();
    }

    private void counts() {
        for (int what = 0; what < 18; what++) {
            if (what != 12) {
                put("count " + what, x.count(what));
            }
        }
    }

    private void put(String name, long... values) {
        seen.append(name);
        for (long value : values) {
            seen.append(' ').append(value);
        }
        seen.append('\n');
    }
}
