import java.lang.reflect.Method;
import java.util.ArrayList;
import java.util.List;
import java.util.Set;

/**
 * "Refused, and nothing changes" and "(Nothing is changed.)": every call with every edge as its numbers,
 * in several states. The answer is the model's; and of two objects with the same past the one that had
 * refused calls and questions put to it is told apart from the other by nothing that can be asked.
 */
public final class RefusedTest {
    private static final Check CHECK = new Check("RefusedTest");
    private static final int[] EDGES = {
        Integer.MIN_VALUE, -1000000, -10, -9, -5, -3, -2, -1, 0, 1, 2, 3, 4, 5, 6, 7,
        10, 11, 48, 49, 99, 100, 255, 256, 999, 1000, Integer.MAX_VALUE,
    };
    private static final Set<String> CHANGES = Set.of("type", "clear", "house", "lays", "takes", "rescales",
            "undo", "tries", "forget", "rate", "keep", "back");
    private static final int CALLS_AT_ONCE = 120;

    private static final String HOUSE = "k0 3 9;t0 1 5 3;t1 12 90 2;t2 3 66 1;t0 2 12 9;t1 1 22 4;t2 1 30 5;"
            + "p1 20;p12 90;p10 99;p2 40;p48 1;d0 9 1 99;d4 40 2 99;";

    /** What was done before. */
    private enum Past {
        NEW, NOTHING_DONE, ALL_DONE, TEXT_FULL, ONLY_PEOPLE, ONLY_THINGS, READ_ANEW
    }

    /** Ways to look for what changed; each takes the object apart in another way. */
    private enum Look {
        ASK, UNDO, IMAGES, READ_TEXT
    }

    private record Call(Method method, Object[] args) {
        long on(Object x, Method same) throws ReflectiveOperationException {
            return ((Number) same.invoke(x, args)).longValue();
        }

        boolean refused(long answer) {
            switch (method.getName()) {
                case "rate": return answer == TwoScales.NO;
                case "house": return answer <= -10;
                default: return answer < 0;
            }
        }

        @Override
        public String toString() {
            return method.getName() + java.util.Arrays.toString(args);
        }
    }

    private RefusedTest() {
    }

    public static void main(String[] args) throws ReflectiveOperationException {
        for (Past past : Past.values()) {
            for (Method method : TwoScales.class.getDeclaredMethods()) {
                if (java.lang.reflect.Modifier.isPublic(method.getModifiers())) {
                    checkAll(past, callsOf(method));
                }
            }
        }
        CHECK.end();
    }

    private static List<Call> callsOf(Method method) {
        int n = method.getParameterCount();
        int all = 1;
        for (int i = 0; i < n; i++) {
            all *= EDGES.length;
        }
        List<Call> calls = new ArrayList<>();
        for (int c = 0; c < all; c++) {
            Object[] numbers = new Object[n];
            int rest = c;
            for (int i = 0; i < n; i++) {
                numbers[i] = EDGES[rest % EDGES.length];
                rest /= EDGES.length;
            }
            calls.add(new Call(method, numbers));
        }
        return calls;
    }

    private static Method ofModel(Method method) throws ReflectiveOperationException {
        return Model.class.getDeclaredMethod(method.getName(), method.getParameterTypes());
    }

    private static void checkAll(Past past, List<Call> calls) throws ReflectiveOperationException {
        Method same = ofModel(calls.get(0).method());
        TwoScales x = made(past);
        Model m = modelOf(past);
        List<Call> changeless = new ArrayList<>();
        for (Call call : calls) {
            long got = call.on(x, call.method());
            CHECK.due(past + " " + call, got, call.on(m, same));
            if (!CHANGES.contains(call.method().getName()) || call.refused(got)) {
                changeless.add(call);
            } else {
                x = made(past);
                m = modelOf(past);
            }
        }
        for (int from = 0; from < changeless.size(); from += CALLS_AT_ONCE) {
            List<Call> some = changeless.subList(from, Math.min(from + CALLS_AT_ONCE, changeless.size()));
            for (Look look : Look.values()) {
                checkNothingChanges(past, some, look);
            }
        }
    }

    private static void checkNothingChanges(Past past, List<Call> calls, Look look)
            throws ReflectiveOperationException {
        TwoScales asked = made(past);
        for (Call call : calls) {
            call.on(asked, call.method());
        }
        CHECK.holds(past + ", " + look + ": nothing changes from " + calls.get(0) + " to "
                + calls.get(calls.size() - 1), seen(asked, look).equals(seen(made(past), look)));
    }

    // ---- the same past for the class and for the model

    private static TwoScales made(Past past) {
        TwoScales x = new TwoScales();
        switch (past) {
            case NEW: break;
            case NOTHING_DONE: tell(x, HOUSE); break;
            case ALL_DONE: tell(x, HOUSE); doAll(x); Check.type(x, "p1 1;d0 0"); break;
            case TEXT_FULL: Check.type(x, "p1 7;".repeat(5) + " ".repeat(174) + "x"); break;
            case ONLY_PEOPLE: tell(x, "p1 20;p12 90;"); break;
            case ONLY_THINGS: tell(x, "t0 1 5 3;t1 12 90 2;d0 1 1 99;"); break;
            default: tell(x, "t0 1 5 3;t1 12 90 2;p1 20;"); x.lays(0, 0); x.keep(0); tell(x, "t0 1 5 3;p1 20;"); break;
        }
        return x;
    }

    private static Model modelOf(Past past) {
        Model m = new Model();
        switch (past) {
            case NEW: break;
            case NOTHING_DONE: tell(m, HOUSE); break;
            case ALL_DONE: tell(m, HOUSE); doAll(m); type(m, "p1 1;d0 0"); break;
            case TEXT_FULL: type(m, "p1 7;".repeat(5) + " ".repeat(174) + "x"); break;
            case ONLY_PEOPLE: tell(m, "p1 20;p12 90;"); break;
            case ONLY_THINGS: tell(m, "t0 1 5 3;t1 12 90 2;d0 1 1 99;"); break;
            default: tell(m, "t0 1 5 3;t1 12 90 2;p1 20;"); m.lays(0, 0); m.keep(0); tell(m, "t0 1 5 3;p1 20;"); break;
        }
        return m;
    }

    private static void tell(TwoScales x, String text) {
        Check.type(x, text);
        x.house();
    }

    private static void type(Model m, String text) {
        for (int i = 0; i < text.length(); i++) {
            m.type(text.charAt(i));
        }
    }

    private static void tell(Model m, String text) {
        type(m, text);
        m.house();
    }

    /** Something is somebody's, all that can be undone is known, as much as can be is tried, both images are kept. */
    private static void doAll(TwoScales x) {
        x.lays(0, 0);
        x.keep(0);
        for (int s = 1; s <= 9; s++) {
            x.rescales(1, 5, s);
        }
        x.lays(4, 3);
        x.keep(1);
        x.lays(3, 3);
        x.rescales(0, 4, 47);
        for (int i = 0; i < 6; i++) {
            x.tries(i, i % 2);
        }
        x.rate(3, 1);
    }

    private static void doAll(Model m) {
        m.lays(0, 0);
        m.keep(0);
        for (int s = 1; s <= 9; s++) {
            m.rescales(1, 5, s);
        }
        m.lays(4, 3);
        m.keep(1);
        m.lays(3, 3);
        m.rescales(0, 4, 47);
        for (int i = 0; i < 6; i++) {
            m.tries(i, i % 2);
        }
        m.rate(3, 1);
    }

    // ---- all that can be seen of an object

    private static List<Long> seen(TwoScales x, Look look) {
        List<Long> seen = new ArrayList<>();
        switch (look) {
            case ASK:
                seeTold(x, seen);
                seeNow(x, seen);
                seeAnswers(x, seen);
                break;
            case UNDO:
                for (int i = 0; i <= 10; i++) {
                    seeNow(x, seen);
                    add(seen, x.undo());
                }
                break;
            case IMAGES:
                for (int i = 0; i < 2; i++) {
                    add(seen, x.back(i));
                    seeNow(x, seen);
                    add(seen, x.undo());
                }
                break;
            default:
                add(seen, x.house());
                seeTold(x, seen);
                add(seen, x.clear());
                add(seen, x.forget());
                break;
        }
        add(seen, x.trace());
        return seen;
    }

    private static void add(List<Long> seen, long answer) {
        seen.add(answer);
    }

    private static void seeTold(TwoScales x, List<Long> seen) {
        for (int what = 0; what < 5; what++) {
            add(seen, x.count(what));
        }
        for (int u = 0; u < 6; u++) {
            add(seen, x.use(u / 2, u % 2));
        }
        for (int d = 0; d < 3 * 4; d++) {
            add(seen, x.door(d / 4, d % 4));
        }
        for (int t = 0; t < 6; t++) {
            add(seen, x.thing(t, 0));
            add(seen, x.thing(t, 2));
            add(seen, x.thing(t, 3));
        }
        for (int p = 0; p < 5; p++) {
            add(seen, x.person(p, 1));
        }
    }

    private static void seeNow(TwoScales x, List<Long> seen) {
        for (int t = 0; t < 6; t++) {
            add(seen, x.thing(t, 1));
            add(seen, x.thing(t, 4));
        }
        for (int p = 0; p < 5; p++) {
            add(seen, x.person(p, 0));
        }
    }

    private static void seeAnswers(TwoScales x, List<Long> seen) {
        for (int what = 0; what < 6; what++) {
            add(seen, x.now(what));
        }
        for (int i = 0; i < 5 * 3; i++) {
            add(seen, x.laying(i / 3, i % 3));
        }
        for (int what = 0; what < 2; what++) {
            add(seen, x.housed(what));
            add(seen, x.mayBe(70, what));
            add(seen, x.mayBe(1, what));
            add(seen, x.next(70, what));
            add(seen, x.bestScale(what));
            add(seen, x.oneMore(70, what));
            add(seen, x.mean(what));
            add(seen, x.odds(3, 1, what));
        }
        for (int k = -1; k <= 6; k++) {
            add(seen, x.carried(k));
        }
        for (int p = 0; p < 5; p++) {
            add(seen, x.share(p, 999));
            add(seen, x.person(p, 2));
            add(seen, x.person(p, 3));
        }
        add(seen, x.turnsOfAll());
    }
}
