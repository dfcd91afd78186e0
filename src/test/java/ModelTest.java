import java.util.Random;

/** Random runs of calls, always the same ones, on the class and on the model. */
public final class ModelTest {
    private static final int RUNS = 300;
    private static final int[] EDGES = {
        Integer.MIN_VALUE, -1000000, -10, -2, -1, 0, 1, 2, 3, 4, 5, 6, 7, 10, 11,
        48, 49, 99, 100, 200, 255, 256, 999, 1000, Integer.MAX_VALUE,
    };
    private static final int[] SCALES = {1, 1, 2, 3, 10, 12, 12, 24, 48};

    private final int run;
    private final Random random;
    private final TwoScales x = new TwoScales();
    private final Model m = new Model();

    private ModelTest(int run) {
        this.run = run;
        this.random = new Random(run);
    }

    public static void main(String[] args) {
        int[] seen = new int[CALLS];
        Check all = new Check("ModelTest");
        for (int run = 0; run < RUNS && !all.tooMany(); run++) {
            new ModelTest(run).go(all, seen);
        }
        for (int c = 0; c < CALLS; c++) {
            all.holds("call " + c + " was asked", seen[c] > 0);
        }
        all.end();
    }

    private int below(int n) {
        return random.nextInt(n);
    }

    private boolean oneIn(int n) {
        return below(n) == 0;
    }

    private int pick(int[] from) {
        return from[below(from.length)];
    }

    // ---- texts

    /** Numbers that make it likely that things fit: a size is a scale by how big it is. */
    private String sized(int scale, int lowTwentieths, int highTwentieths) {
        int twentieths = lowTwentieths + below(highTwentieths - lowTwentieths + 1);
        int size = Math.max(1, Math.min(99, scale * twentieths / 20 + below(2)));
        return scale + " " + (oneIn(8) ? 1 + below(99) : size);
    }

    private String item(int kind, int[] most) {
        switch (kind) {
            case 0: {
                int low = oneIn(2) ? below(8) : below(61);
                return "k" + below(3) + " " + low + " " + (oneIn(2) ? 60 : low + below(61 - low));
            }
            case 1: {
                int u = oneIn(3) ? below(3) : most[1] % 3;
                int[] from = {14, 70, 73};
                int[] to = {22, 90, 150};
                return "t" + u + " " + sized(pick(SCALES), from[u], to[u]) + " " + (1 + below(9));
            }
            case 2: return "p" + sized(pick(SCALES), 60, 90);
            default: {
                int from = below(oneIn(3) ? 61 : 16);
                int until = Math.min(99, from + 1 + below(40));
                return "d" + from + " " + until + " " + (oneIn(2) ? "1 99" : sized(pick(SCALES), 20, 160));
            }
        }
    }

    /** How many items of each kind there are to be: mostly a full house, so that much can be done in it. */
    private int[] howMany() {
        if (oneIn(4)) {
            return new int[] {below(4), below(8), below(7), below(5)};
        }
        return new int[] {oneIn(2) ? 0 : 3, 4 + below(3), 2 + below(4), 1 + below(3)};
    }

    private String text() {
        int[] most = howMany();
        StringBuilder text = new StringBuilder();
        while (most[0] + most[1] + most[2] + most[3] > 0) {
            int kind = below(4);
            if (most[kind] > 0) {
                most[kind]--;
                text.append(item(kind, most)).append(oneIn(10) ? " ; " : ";").append(oneIn(10) ? "  " : "");
            }
        }
        if (oneIn(4)) {
            spoil(text);
        }
        return text.toString();
    }

    private void spoil(StringBuilder text) {
        String letters = "ktpd;0123456789 0 ;9x";
        for (int i = 1 + below(2); i > 0; i--) {
            int place = below(text.length() + 1);
            char letter = oneIn(12) ? (char) below(256) : letters.charAt(below(letters.length()));
            if (place == text.length() || oneIn(2)) {
                text.insert(place, letter);
            } else if (oneIn(2)) {
                text.deleteCharAt(place);
            } else if (oneIn(4)) {
                text.setLength(place);
            } else {
                text.setCharAt(place, letter);
            }
        }
    }

    private void tell(Check all) {
        if (!oneIn(9)) {
            all.due(run + " clear()", x.clear(), m.clear());
        }
        String text = text();
        for (int i = 0; i < text.length(); i++) {
            all.due(run + " type " + text.charAt(i), x.type(text.charAt(i)), m.type(text.charAt(i)));
        }
        all.due(run + " house() of " + text, x.house(), m.house());
    }

    // ---- calls

    private static final int CALLS = 30;

    /** Mostly a number that is fine, now and then any edge. */
    private int arg(int count) {
        return oneIn(25) ? pick(EDGES) : below(Math.max(count, 1));
    }

    private void go(Check all, int[] seen) {
        tell(all);
        for (int i = 0; i < 120 && !all.tooMany(); i++) {
            if (m.count(0) == 0 && oneIn(3) || oneIn(90)) {
                tell(all);
            }
            // What changes something comes more often than the rest.
            int call = oneIn(2) ? 8 + below(5) : below(CALLS);
            if (call == 2 && !oneIn(9)) {
                continue;
            }
            seen[call]++;
            askOne(all, call);
            if (oneIn(12)) {
                askAll(all);
            }
        }
        askAll(all);
    }

    private void askOne(Check all, int call) {
        int t = arg(m.count(0));
        int p = arg(m.count(1));
        int d = arg(m.count(2));
        int z = oneIn(3) ? arg(99) + 1 : arg(6) + 60;
        int two = arg(2);
        switch (call) {
            case 0: { int c = arg(256); all.due(run + " type", x.type(c), m.type(c)); break; }
            case 1: all.due(run + " clear", x.clear(), m.clear()); break;
            case 2: all.due(run + " house", x.house(), m.house()); break;
            case 3: { int u = arg(3); all.due(run + " use", x.use(u, two), m.use(u, two)); break; }
            case 4: { int w = arg(6); all.due(run + " thing " + t + " " + w, x.thing(t, w), m.thing(t, w)); break; }
            case 5: { int w = arg(4); all.due(run + " person " + p + " " + w, x.person(p, w), m.person(p, w)); break; }
            case 6: { int w = arg(4); all.due(run + " door", x.door(d, w), m.door(d, w)); break; }
            case 7: { int w = arg(6); all.due(run + " now " + w, x.now(w), m.now(w)); break; }
            case 8: case 9: all.due(run + " lays " + t + " " + p, x.lays(t, p), m.lays(t, p)); break;
            case 10: all.due(run + " takes " + t, x.takes(t), m.takes(t)); break;
            case 11: rescale(all, t, p, two); break;
            case 12: all.due(run + " undo", x.undo(), m.undo()); break;
            case 13: all.due(run + " housed " + two, x.housed(two), m.housed(two)); break;
            case 14: { int u = arg(3); all.due(run + " laying", x.laying(p, u), m.laying(p, u)); break; }
            case 15: tryOn(all, t, z, two); break;
            case 16: all.due(run + " forget", x.forget(), m.forget()); break;
            case 17: all.due(run + " mayBe " + z, x.mayBe(z, two), m.mayBe(z, two)); break;
            case 18: all.due(run + " next " + z, x.next(z, two), m.next(z, two)); break;
            case 19: all.due(run + " bestScale " + two, x.bestScale(two), m.bestScale(two)); break;
            case 20: all.due(run + " oneMore " + z, x.oneMore(z, two), m.oneMore(z, two)); break;
            case 21: { int k = arg(8) - 1; all.due(run + " carried " + k, x.carried(k), m.carried(k)); break; }
            case 22: all.due(run + " mean", x.mean(two), m.mean(two)); break;
            case 23: all.due(run + " turnsOfAll", x.turnsOfAll(), m.turnsOfAll()); break;
            case 24: { int n = arg(999) + 1; all.due(run + " share", x.share(p, n), m.share(p, n)); break; }
            case 25: { int o = arg(11), k = arg(7); all.due(run + " odds", x.odds(o, k, two), m.odds(o, k, two)); break; }
            case 26: { int kind = arg(6); all.due(run + " rate", x.rate(kind, t), m.rate(kind, t)); break; }
            case 27: all.due(run + " keep", x.keep(two), m.keep(two)); break;
            case 28: all.due(run + " back", x.back(two), m.back(two)); break;
            default: { int w = arg(5); all.due(run + " count", x.count(w), m.count(w)); break; }
        }
        all.due(run + " trace", x.trace(), m.trace());
    }

    private void rescale(Check all, int t, int p, int two) {
        int i = two == 1 ? t : p;
        // Most rescaling goes back to what was told or next to it, so that something goes on fitting.
        int was = two == 1 ? m.thing(i, 1) : m.person(i, 0);
        int s = oneIn(2) ? was + below(3) - 1 : oneIn(2) ? pick(SCALES) : arg(48) + 1;
        all.due(run + " rescales " + two + " " + i + " " + s, x.rescales(two, i, s), m.rescales(two, i, s));
    }

    private void tryOn(Check all, int t, int z, int two) {
        all.due(run + " tries " + t + " " + two, x.tries(t, two), m.tries(t, two));
        all.due(run + " mayBe behind tries", x.mayBe(z, 0), m.mayBe(z, 0));
    }

    /** All that can be asked without a change. */
    private void askAll(Check all) {
        for (int w = 0; w < 6; w++) {
            all.due(run + " now " + w, x.now(w), m.now(w));
            all.due(run + " count " + w, x.count(w), m.count(w));
        }
        for (int t = 0; t < m.count(0); t++) {
            for (int w = 0; w < 6; w++) {
                all.due(run + " thing " + t + " " + w, x.thing(t, w), m.thing(t, w));
            }
        }
        for (int p = 0; p < m.count(1); p++) {
            for (int w = 0; w < 4; w++) {
                all.due(run + " person " + p + " " + w, x.person(p, w), m.person(p, w));
            }
        }
        for (int u = 0; u < 3; u++) {
            all.due(run + " use " + u, x.use(u, 0), m.use(u, 0));
            all.due(run + " use " + u, x.use(u, 1), m.use(u, 1));
        }
        all.due(run + " housed", x.housed(1), m.housed(1));
        int k = below(7) - 1;
        all.due(run + " carried " + k, x.carried(k), m.carried(k));
    }
}
