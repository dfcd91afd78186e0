import java.math.BigInteger;
import java.util.ArrayList;
import java.util.Arrays;
import java.util.List;
import java.util.regex.Matcher;
import java.util.regex.Pattern;

/**
 * The document once more, in the slowest and plainest way and with all of the library: every
 * question is answered by going through all that there could be.
 */
final class Model {
    static final int BAD = -1, STATE = -2, FULL = -3, NONE = -9, NO = -1000000;

    /** A fraction with a positive lower number. */
    private record Part(BigInteger upper, BigInteger lower) {
        static Part of(long upper, long lower) {
            return new Part(BigInteger.valueOf(upper), BigInteger.valueOf(lower));
        }

        Part plus(Part o) {
            return new Part(upper.multiply(o.lower).add(o.upper.multiply(lower)), lower.multiply(o.lower));
        }

        Part times(Part o) {
            return new Part(upper.multiply(o.upper), lower.multiply(o.lower));
        }

        Part over(Part o) {
            return new Part(upper.multiply(o.lower), lower.multiply(o.upper));
        }

        boolean noMoreThan(Part o) {
            return upper.multiply(o.lower).compareTo(o.upper.multiply(lower)) <= 0;
        }

        long lowest(int what) {
            BigInteger g = upper.gcd(lower);
            return (what == 0 ? upper : lower).divide(g).longValueExact();
        }
    }

    private record Thing(int use, int scale, int size, int minutes, int owner) {
    }

    private record Person(int scale, int size) {
    }

    private record Door(int from, int until, int scale, int size) {
    }

    private record Tried(int thing, boolean fits) {
    }

    private record Moment(List<Thing> things, List<Person> people) {
    }

    private record Told(List<int[]> numbers, String kinds, int fault) {
    }

    private String text = "";
    private int[][] laws = {{4, 6}, {20, 24}, {21, 40}};
    private List<Thing> things = new ArrayList<>();
    private List<Person> people = new ArrayList<>();
    private List<Door> doors = new ArrayList<>();
    private final List<Tried> tried = new ArrayList<>();
    private final List<Moment> past = new ArrayList<>();
    private final Moment[] images = new Moment[2];
    private long trace;

    // ---- the house

    int type(int letter) {
        if (letter < 0 || letter > 255) {
            return BAD;
        }
        if (text.length() == 200) {
            return FULL;
        }
        text += (char) letter;
        return text.length();
    }

    int clear() {
        int had = text.length();
        text = "";
        return had;
    }

    private static int numbersOf(char kind) {
        return kind == 'k' ? 3 : kind == 'p' ? 2 : 4;
    }

    /** Whether a number may stand as the i-th of an item of a kind, behind those that stand already. */
    private static boolean mayStand(char kind, List<Integer> ahead, int n) {
        switch ("" + kind + ahead.size()) {
            case "k0": case "t0": return n <= 2;
            case "k1": return n <= 60;
            case "k2": return n <= 60 && n >= ahead.get(1);
            case "t1": case "p0": case "d2": return n >= 1 && n <= 48;
            case "t2": case "p1": case "d3": return n >= 1 && n <= 99;
            case "t3": return n >= 1 && n <= 9;
            case "d0": return n <= 60;
            case "d1": return n <= 99 && n > ahead.get(0);
            default: return false;
        }
    }

    private Told read() {
        List<int[]> items = new ArrayList<>();
        StringBuilder kinds = new StringBuilder();
        char kind = 0;
        List<Integer> numbers = new ArrayList<>();
        int[] told = new int[128];
        Matcher m = Pattern.compile("[0-9]+|[^ ]", Pattern.DOTALL).matcher(text);
        while (m.find()) {
            String token = m.group();
            boolean right;
            if (token.matches("0|[1-9][0-9]?")) {
                int n = Integer.parseInt(token);
                right = kind != 0 && mayStand(kind, numbers, n);
                numbers.add(n);
            } else if (token.equals(";")) {
                right = kind != 0 && numbers.size() == numbersOf(kind);
                if (right) {
                    items.add(numbers.stream().mapToInt(i -> i).toArray());
                    kinds.append(kind);
                    kind = 0;
                    numbers.clear();
                }
            } else if (token.matches("[ktpd]")) {
                right = kind == 0;
                kind = token.charAt(0);
                told[kind]++;
                right &= told['t'] <= 6 && told['p'] <= 5 && told['d'] <= 3;
            } else {
                right = false;
            }
            if (!right) {
                return new Told(items, kinds.toString(), m.start());
            }
        }
        return new Told(items, kinds.toString(), kind == 0 ? -1 : text.length());
    }

    int house() {
        Told told = read();
        if (told.fault() >= 0) {
            return -10 - told.fault();
        }
        laws = new int[][] {{4, 6}, {20, 24}, {21, 40}};
        things = new ArrayList<>();
        people = new ArrayList<>();
        doors = new ArrayList<>();
        for (int i = 0; i < told.numbers().size(); i++) {
            int[] n = told.numbers().get(i);
            switch (told.kinds().charAt(i)) {
                case 'k': laws[n[0]] = new int[] {n[1], n[2]}; break;
                case 't': things.add(new Thing(n[0], n[1], n[2], n[3], NONE)); break;
                case 'p': people.add(new Person(n[0], n[1])); break;
                default: doors.add(new Door(n[0], n[1], n[2], n[3])); break;
            }
        }
        text = "";
        tried.clear();
        past.clear();
        Arrays.fill(images, null);
        return told.numbers().size();
    }

    private static boolean within(int i, int count) {
        return i >= 0 && i < count;
    }

    int use(int u, int what) {
        return within(u, 3) && within(what, 2) ? laws[u][what] : BAD;
    }

    int thing(int t, int what) {
        if (!within(t, things.size()) || !within(what, 6)) {
            return BAD;
        }
        Thing x = things.get(t);
        return new int[] {x.use, x.scale, x.size, x.minutes, x.owner, fits(t)}[what];
    }

    int person(int p, int what) {
        if (!within(p, people.size()) || !within(what, 4)) {
            return BAD;
        }
        Person x = people.get(p);
        int smaller = 0;
        for (Person o : people) {
            smaller += tall(x).noMoreThan(tall(o)) ? 0 : 1;
        }
        return new int[] {x.scale, x.size, has(p), smaller}[what];
    }

    int door(int d, int what) {
        if (!within(d, doors.size()) || !within(what, 4)) {
            return BAD;
        }
        Door x = doors.get(d);
        return new int[] {x.from, x.until, x.scale, x.size}[what];
    }

    int now(int what) {
        return within(what, 6) ? new int[] {useless(), bare(0), bare(1), bare(2), owned(), past.size()}[what] : BAD;
    }

    private static Part tall(Person p) {
        return Part.of(p.size, p.scale);
    }

    private boolean fits(Thing t, Person p) {
        Part big = Part.of(t.size, t.scale);
        Part low = Part.of(laws[t.use][0], 20).times(tall(p));
        Part high = Part.of(laws[t.use][1], 20).times(tall(p));
        return low.noMoreThan(big) && big.noMoreThan(high);
    }

    private int fits(int t) {
        int bits = 0;
        for (int p = 0; p < people.size(); p++) {
            bits += fits(things.get(t), people.get(p)) ? 1 << p : 0;
        }
        return bits;
    }

    private int useless() {
        int bits = 0;
        for (int t = 0; t < things.size(); t++) {
            bits += fits(t) == 0 ? 1 << t : 0;
        }
        return bits;
    }

    private int bare(int u) {
        int bits = 0;
        for (int p = 0; p < people.size(); p++) {
            boolean bare = true;
            for (Thing t : things) {
                bare &= t.use != u || !fits(t, people.get(p));
            }
            bits += bare ? 1 << p : 0;
        }
        return bits;
    }

    private int has(int p) {
        int bits = 0;
        for (int t = 0; t < things.size(); t++) {
            bits += things.get(t).owner == p ? 1 << t : 0;
        }
        return bits;
    }

    private int owned() {
        int bits = 0;
        for (int p = 0; p < people.size(); p++) {
            bits += has(p);
        }
        return bits;
    }

    // ---- what is done

    private Moment moment() {
        return new Moment(List.copyOf(things), List.copyOf(people));
    }

    private void become(Moment m) {
        things = new ArrayList<>(m.things);
        people = new ArrayList<>(m.people);
    }

    private void remember() {
        past.add(moment());
        if (past.size() > 10) {
            past.remove(0);
        }
    }

    private void give(int t, int owner) {
        Thing x = things.get(t);
        things.set(t, new Thing(x.use, x.scale, x.size, x.minutes, owner));
    }

    int lays(int t, int p) {
        if (!within(t, things.size()) || !within(p, people.size())) {
            return BAD;
        }
        Thing x = things.get(t);
        boolean hasOne = false;
        for (Thing o : things) {
            hasOne |= o.owner == p && o.use == x.use;
        }
        if (!fits(x, people.get(p)) || hasOne || x.owner != NONE) {
            return STATE;
        }
        remember();
        give(t, p);
        return Integer.bitCount(has(p));
    }

    int takes(int t) {
        if (!within(t, things.size())) {
            return BAD;
        }
        int owner = things.get(t).owner;
        if (owner == NONE) {
            return STATE;
        }
        remember();
        give(t, NONE);
        return owner;
    }

    int rescales(int isThing, int i, int s) {
        if (!within(isThing, 2) || !within(i, isThing == 1 ? things.size() : people.size()) || !within(s - 1, 48)) {
            return BAD;
        }
        remember();
        int former;
        if (isThing == 1) {
            Thing x = things.get(i);
            former = x.scale;
            things.set(i, new Thing(x.use, s, x.size, x.minutes, x.owner));
        } else {
            former = people.get(i).scale;
            people.set(i, new Person(s, people.get(i).size));
        }
        for (int t = 0; t < things.size(); t++) {
            Thing x = things.get(t);
            if (x.owner != NONE && !fits(x, people.get(x.owner))) {
                give(t, NONE);
            }
        }
        return former;
    }

    int undo() {
        if (past.isEmpty()) {
            return STATE;
        }
        become(past.remove(past.size() - 1));
        return past.size();
    }

    // ---- who can have what

    /** The first row of things for these people of a use, going through all rows; null if there is none. */
    private int[] firstRow(int u, int bits) {
        int n = people.size();
        int rows = 1;
        for (int p = 0; p < n; p++) {
            rows *= 6;
        }
        for (int r = 0; r < rows; r++) {
            int[] row = new int[n];
            int rest = r;
            for (int p = n - 1; p >= 0; p--) {
                row[p] = rest % 6;
                rest /= 6;
            }
            if (isLaying(u, bits, row)) {
                return row;
            }
        }
        return null;
    }

    private boolean isLaying(int u, int bits, int[] row) {
        int used = 0;
        for (int p = 0; p < row.length; p++) {
            if ((bits & 1 << p) == 0) {
                if (row[p] != 0) {
                    return false;
                }
                row[p] = NONE;
            } else {
                int t = row[p];
                if (t >= things.size() || (used & 1 << t) != 0 || things.get(t).use != u
                        || !fits(things.get(t), people.get(p))) {
                    return false;
                }
                used |= 1 << t;
            }
        }
        return true;
    }

    private int mostHoused() {
        int best = 0;
        for (int bits = (1 << people.size()) - 1; bits > 0; bits--) {
            if (Integer.bitCount(bits) >= Integer.bitCount(best)) {
                boolean all = true;
                for (int u = 0; u < 3 && all; u++) {
                    all = firstRow(u, bits) != null;
                }
                best = all ? bits : best;
            }
        }
        return best;
    }

    int housed(int what) {
        if (!within(what, 2)) {
            return BAD;
        }
        int bits = mostHoused();
        return what == 0 ? Integer.bitCount(bits) : bits;
    }

    int laying(int p, int u) {
        if (!within(p, people.size()) || !within(u, 3)) {
            return BAD;
        }
        int bits = mostHoused();
        return bits == 0 ? NONE : firstRow(u, bits)[p];
    }

    // ---- strangers

    int tries(int t, int fits) {
        if (!within(t, things.size()) || !within(fits, 2)) {
            return BAD;
        }
        if (tried.size() == 6) {
            return FULL;
        }
        tried.add(new Tried(t, fits == 1));
        return tried.size();
    }

    int forget() {
        int had = tried.size();
        tried.clear();
        return had;
    }

    private List<Integer> scales(int z, List<Tried> so) {
        List<Integer> scales = new ArrayList<>();
        for (int s = 1; s <= 48; s++) {
            boolean may = true;
            for (Tried x : so) {
                may &= fits(things.get(x.thing), new Person(s, z)) == x.fits;
            }
            if (may) {
                scales.add(s);
            }
        }
        return scales;
    }

    int mayBe(int z, int what) {
        if (!within(z - 1, 99) || !within(what, 2)) {
            return BAD;
        }
        List<Integer> scales = scales(z, tried);
        return what == 0 ? scales.size() : scales.isEmpty() ? NONE : scales.get(0);
    }

    int next(int z, int what) {
        if (!within(z - 1, 99) || !within(what, 2)) {
            return BAD;
        }
        int best = NONE;
        int fewest = NONE;
        for (int t = things.size() - 1; t >= 0; t--) {
            int worst = 0;
            for (int answer = 0; answer < 2; answer++) {
                List<Tried> more = new ArrayList<>(tried);
                more.add(new Tried(t, answer == 1));
                worst = Math.max(worst, scales(z, more).size());
            }
            if (best == NONE || worst <= fewest) {
                best = t;
                fewest = worst;
            }
        }
        return what == 0 ? best : fewest;
    }

    int bestScale(int what) {
        if (!within(what, 2)) {
            return BAD;
        }
        int[] twos = new int[49];
        for (int s = 1; s <= 48; s++) {
            for (Thing t : things) {
                for (Person p : people) {
                    twos[s] += fits(new Thing(t.use, s, t.size, t.minutes, t.owner), p) ? 1 : 0;
                }
            }
        }
        return leastOfMost(twos, what);
    }

    int oneMore(int z, int what) {
        if (!within(z - 1, 99) || !within(what, 2)) {
            return BAD;
        }
        int[] fitting = new int[49];
        for (int s = 1; s <= 48; s++) {
            for (Thing t : things) {
                fitting[s] += fits(t, new Person(s, z)) ? 1 : 0;
            }
        }
        return leastOfMost(fitting, what);
    }

    private static int leastOfMost(int[] byScale, int what) {
        int most = Arrays.stream(byScale).max().getAsInt();
        int s = 1;
        while (byScale[s] != most) {
            s++;
        }
        return what == 0 ? s : most;
    }

    // ---- carrying, turns, shares

    private List<Integer> bestOrder;
    private int bestEnd;

    int carried(int k) {
        if (k < -1) {
            return BAD;
        }
        bestOrder = null;
        bestEnd = 0;
        goThroughOrders(new ArrayList<>(), 0);
        if (bestOrder == null) {
            return NONE;
        }
        return k == -1 ? bestEnd : k < bestOrder.size() ? bestOrder.get(k) : -5;
    }

    private void goThroughOrders(List<Integer> order, int minute) {
        if (order.size() == things.size()) {
            if (bestOrder == null || minute < bestEnd) {
                bestOrder = new ArrayList<>(order);
                bestEnd = minute;
            }
            return;
        }
        for (int t = 0; t < things.size(); t++) {
            if (!order.contains(t)) {
                int start = minute;
                while (start < 100 && !canStart(things.get(t), start)) {
                    start++;
                }
                if (start < 100) {
                    order.add(t);
                    goThroughOrders(order, start + things.get(t).minutes);
                    order.remove(order.size() - 1);
                }
            }
        }
    }

    private boolean canStart(Thing t, int minute) {
        for (Door d : doors) {
            boolean open = d.from <= minute && minute + t.minutes <= d.until;
            if (open && t.size * d.scale <= d.size * t.scale) {
                return true;
            }
        }
        return false;
    }

    private Part tallOfAll() {
        Part all = Part.of(0, 1);
        for (Person p : people) {
            all = all.plus(tall(p));
        }
        return all;
    }

    long mean(int what) {
        if (!within(what, 2)) {
            return BAD;
        }
        return people.isEmpty() ? what : tallOfAll().times(Part.of(1, people.size())).lowest(what);
    }

    int turnsOfAll() {
        int chairs = 0;
        for (Thing t : things) {
            chairs += t.use == 0 ? 1 : 0;
        }
        if (chairs == 0 || people.isEmpty()) {
            return NONE;
        }
        int hours = 1;
        while (hours * Math.min(chairs, people.size()) % people.size() != 0) {
            hours++;
        }
        return hours;
    }

    int share(int p, int n) {
        if (!within(p, people.size()) || !within(n - 1, 999)) {
            return BAD;
        }
        Part share = Part.of(n, 1).times(tall(people.get(p))).over(tallOfAll());
        return share.upper.divide(share.lower).intValueExact();
    }

    int odds(int p, int k, int what) {
        if (!within(p, 11) || !within(k, 7) || !within(what, 2)) {
            return BAD;
        }
        Part odds = Part.of(0, 1);
        int useless = useless();
        for (int seen = 0; seen < 1 << things.size(); seen++) {
            if (Integer.bitCount(seen & useless) <= k) {
                Part one = Part.of(1, 1);
                for (int t = 0; t < things.size(); t++) {
                    one = one.times(Part.of((seen & 1 << t) != 0 ? p : 10 - p, 10));
                }
                odds = odds.plus(one);
                odds = Part.of(odds.lowest(0), odds.lowest(1));
            }
        }
        return (int) odds.lowest(what);
    }

    // ---- kinds, images

    int rate(int kind, int t) {
        return within(kind, 6) && within(t, things.size()) ? body(kind, t) : NO;
    }

    private int body(int kind, int t) {
        Thing x = things.get(t);
        switch (kind) {
            case 0: trace += 1; return x.size;
            case 1: trace += 10; return body(0, t) + x.scale;
            case 2: trace += 100; return body(0, t) - x.minutes;
            case 3: trace += 1000; return body(1, t) * 2;
            case 4: trace += 10000; return body(2, t) + t;
            default: trace += 100000; return body(0, t) + Integer.bitCount(fits(t));
        }
    }

    int keep(int image) {
        if (!within(image, 2)) {
            return BAD;
        }
        images[image] = moment();
        return Integer.bitCount(owned());
    }

    int back(int image) {
        if (!within(image, 2)) {
            return BAD;
        }
        if (images[image] == null) {
            return STATE;
        }
        become(images[image]);
        past.clear();
        return Integer.bitCount(owned());
    }

    int count(int what) {
        int[] counts = {things.size(), people.size(), doors.size(), tried.size(), text.length()};
        return within(what, 5) ? counts[what] : BAD;
    }

    long trace() {
        return trace;
    }
}
