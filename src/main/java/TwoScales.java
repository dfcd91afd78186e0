import java.util.Arrays;

/** A house of one scale and a family of another. DOC.md says what each call answers. */
public final class TwoScales {
    public static final int BAD = -1, STATE = -2, FULL = -3, NONE = -9;
    public static final int NO = -1000000;

    private static final int NOT_SO_MANY = -5;
    private static final int AHEAD_OF_FAULT = -10;
    private static final int MOST_LETTERS = 200;
    private static final int MOST_LETTER = 255;
    private static final int USES = 3;
    private static final int CHAIR = 0;
    private static final int MOST_THINGS = 6;
    private static final int MOST_PEOPLE = 5;
    private static final int MOST_DOORS = 3;
    private static final int MOST_TRIED = 6;
    private static final int MOST_UNDONE = 10;
    private static final int IMAGES = 2;
    private static final int MOST_SIZE = 99;
    private static final int MOST_SCALE = 48;
    private static final int MOST_CRUMBS = 999;
    private static final int TENTHS = 10;

    private final Text text = new Text();
    private final House home = new House();
    private final History history = new History();
    private final Now[] images = new Now[IMAGES];
    private final boolean[] imageKept = new boolean[IMAGES];
    private final Trials trials = new Trials();
    private final Housing housing = new Housing();
    private final Carrying carrying = new Carrying();
    private final int[] fittingAt = new int[MOST_SCALE + 1];
    private long traced;

    public TwoScales() {
        for (int i = 0; i < IMAGES; i++) {
            images[i] = new Now();
        }
    }

    // ---- the house

    public int type(int letter) {
        if (letter < 0 || letter > MOST_LETTER) {
            return BAD;
        }
        if (text.isFull()) {
            return FULL;
        }
        text.add((char) letter);
        return text.size();
    }

    public int clear() {
        int had = text.size();
        text.loseAll();
        return had;
    }

    public int house() {
        int fault = text.readAll();
        if (fault != Text.NO_FAULT) {
            return AHEAD_OF_FAULT - fault;
        }
        home.tale = text.giveTaleFor(home.tale);
        home.now.beginAsTold(home.tale);
        history.loseAll();
        trials.loseAll();
        for (int i = 0; i < IMAGES; i++) {
            imageKept[i] = false;
        }
        text.loseAll();
        return text.itemsRead();
    }

    public int use(int u, int what) {
        if (!isUse(u)) {
            return BAD;
        }
        switch (what) {
            case 0: return home.tale.low[u];
            case 1: return home.tale.high[u];
            default: return BAD;
        }
    }

    public int thing(int t, int what) {
        if (!home.hasThing(t)) {
            return BAD;
        }
        switch (what) {
            case 0: return home.tale.thingUse[t];
            case 1: return home.now.thingScale[t];
            case 2: return home.tale.thingSize[t];
            case 3: return home.tale.thingMinutes[t];
            case 4: return home.now.owner[t];
            case 5: return home.peopleItFits(t);
            default: return BAD;
        }
    }

    public int person(int p, int what) {
        if (!home.hasPerson(p)) {
            return BAD;
        }
        switch (what) {
            case 0: return home.now.personScale[p];
            case 1: return home.tale.personSize[p];
            case 2: return home.thingsOf(p);
            case 3: return home.smallerThan(p);
            default: return BAD;
        }
    }

    public int door(int d, int what) {
        if (d < 0 || d >= home.tale.doors) {
            return BAD;
        }
        switch (what) {
            case 0: return home.tale.doorFrom[d];
            case 1: return home.tale.doorUntil[d];
            case 2: return home.tale.doorScale[d];
            case 3: return home.tale.doorSize[d];
            default: return BAD;
        }
    }

    public int now(int what) {
        switch (what) {
            case 0: return home.useless();
            case 1:
            case 2:
            case 3: return home.bareOf(what - 1);
            case 4: return home.ownedThings();
            case 5: return history.size();
            default: return BAD;
        }
    }

    // ---- what is done

    public int lays(int t, int p) {
        if (!home.hasThing(t) || !home.hasPerson(p)) {
            return BAD;
        }
        if (!home.canLay(t, p)) {
            return STATE;
        }
        history.remember(home.now);
        home.now.owner[t] = p;
        return Integer.bitCount(home.thingsOf(p));
    }

    public int takes(int t) {
        if (!home.hasThing(t)) {
            return BAD;
        }
        int owner = home.now.owner[t];
        if (owner == NONE) {
            return STATE;
        }
        history.remember(home.now);
        home.now.owner[t] = NONE;
        return owner;
    }

    public int rescales(int isThing, int i, int s) {
        boolean known = isThing == 1 ? home.hasThing(i) : isThing == 0 && home.hasPerson(i);
        if (!known || s < 1 || s > MOST_SCALE) {
            return BAD;
        }
        history.remember(home.now);
        int[] scales = isThing == 1 ? home.now.thingScale : home.now.personScale;
        int former = scales[i];
        scales[i] = s;
        home.freeWhatDoesNotFit();
        return former;
    }

    public int undo() {
        if (history.size() == 0) {
            return STATE;
        }
        history.restoreLatest(home.now);
        return history.size();
    }

    // ---- who can have what

    public int housed(int what) {
        if (!isFirstOrSecond(what)) {
            return BAD;
        }
        int people = housing.mostPeople(home);
        return what == 0 ? Integer.bitCount(people) : people;
    }

    public int laying(int p, int u) {
        if (!home.hasPerson(p) || !isUse(u)) {
            return BAD;
        }
        return housing.firstThingOf(home, p, u);
    }

    // ---- strangers

    public int tries(int t, int fits) {
        if (!home.hasThing(t) || !isFirstOrSecond(fits)) {
            return BAD;
        }
        if (trials.isFull()) {
            return FULL;
        }
        trials.add(t, fits == 1);
        return trials.size();
    }

    public int forget() {
        int had = trials.size();
        trials.loseAll();
        return had;
    }

    public int mayBe(int z, int what) {
        if (!isSize(z) || !isFirstOrSecond(what)) {
            return BAD;
        }
        return what == 0 ? trials.scalesLeft(home, z) : trials.leastScale(home, z);
    }

    public int next(int z, int what) {
        if (!isSize(z) || !isFirstOrSecond(what)) {
            return BAD;
        }
        int t = trials.bestToTry(home, z);
        if (t == NONE || what == 0) {
            return t;
        }
        return trials.leftAtWorst(home, z, t);
    }

    public int bestScale(int what) {
        if (!isFirstOrSecond(what)) {
            return BAD;
        }
        for (int s = 1; s <= MOST_SCALE; s++) {
            fittingAt[s] = home.twosIfAllThingsWere(s);
        }
        int best = scaleOfMost();
        return what == 0 ? best : fittingAt[best];
    }

    public int oneMore(int z, int what) {
        if (!isSize(z) || !isFirstOrSecond(what)) {
            return BAD;
        }
        for (int s = 1; s <= MOST_SCALE; s++) {
            fittingAt[s] = home.thingsFitting(z, s);
        }
        int best = scaleOfMost();
        return what == 0 ? best : fittingAt[best];
    }

    private int scaleOfMost() {
        int best = 1;
        for (int s = 2; s <= MOST_SCALE; s++) {
            if (fittingAt[s] > fittingAt[best]) {
                best = s;
            }
        }
        return best;
    }

    // ---- carrying, turns, shares

    public int carried(int k) {
        if (k < -1) {
            return BAD;
        }
        int minutes = carrying.fewestMinutes(home);
        if (minutes == NONE || k == -1) {
            return minutes;
        }
        if (k >= home.tale.things) {
            return NOT_SO_MANY;
        }
        return carrying.inFirstOrder(home, minutes, k);
    }

    public long mean(int what) {
        if (!isFirstOrSecond(what)) {
            return BAD;
        }
        long unit = home.commonScale();
        // Of nobody the height is 0 all the same: any number below it but 0 will do.
        int people = Math.max(home.tale.people, 1);
        return inLowestTerms(home.heightOfAll(unit), unit * people, what);
    }

    public int turnsOfAll() {
        int people = home.tale.people;
        int seats = Math.min(home.chairs(), people);
        if (seats == 0) {
            return NONE;
        }
        // Hours by seats must be a multiple of the people: the least such hours.
        return (int) inLowestTerms(people, seats, 0);
    }

    public int share(int p, int n) {
        if (!home.hasPerson(p) || n < 1 || n > MOST_CRUMBS) {
            return BAD;
        }
        long unit = home.commonScale();
        long all = home.heightOfAll(unit);
        if (all == 0) {
            return 0;
        }
        return (int) (n * home.heightOf(p, unit) / all);
    }

    public int odds(int p, int k, int what) {
        if (p < 0 || p > TENTHS || k < 0 || k > MOST_THINGS || !isFirstOrSecond(what)) {
            return BAD;
        }
        int hidden = Integer.bitCount(home.useless());
        long upper = 0;
        for (int seen = 0; seen <= hidden && seen <= k; seen++) {
            upper += waysToChoose(hidden, seen) * power(p, seen) * power(TENTHS - p, hidden - seen);
        }
        return (int) inLowestTerms(upper, power(TENTHS, hidden), what);
    }

    // ---- kinds, images

    public int rate(int kind, int t) {
        if (!home.hasThing(t)) {
            return NO;
        }
        switch (kind) {
            case 0: return rateOfThing(t);
            case 1: return rateOfTurned(t);
            case 2: return rateOfGlued(t);
            case 3: return rateOfCarved(t);
            case 4: return rateOfSoup(t);
            case 5: return rateOfReal(t);
            default: return NO;
        }
    }

    public int keep(int image) {
        if (!isFirstOrSecond(image)) {
            return BAD;
        }
        images[image].copyFrom(home.now);
        imageKept[image] = true;
        return Integer.bitCount(home.ownedThings());
    }

    public int back(int image) {
        if (!isFirstOrSecond(image)) {
            return BAD;
        }
        if (!imageKept[image]) {
            return STATE;
        }
        home.now.copyFrom(images[image]);
        history.loseAll();
        return Integer.bitCount(home.ownedThings());
    }

    public int count(int what) {
        switch (what) {
            case 0: return home.tale.things;
            case 1: return home.tale.people;
            case 2: return home.tale.doors;
            case 3: return trials.size();
            case 4: return text.size();
            default: return BAD;
        }
    }

    public long trace() {
        return traced;
    }

    // ---- the bodies of the kinds: each asks the one above it once

    private int rateOfThing(int t) {
        traced += 1;
        return home.tale.thingSize[t];
    }

    private int rateOfTurned(int t) {
        traced += 10;
        return rateOfThing(t) + home.now.thingScale[t];
    }

    private int rateOfGlued(int t) {
        traced += 100;
        return rateOfThing(t) - home.tale.thingMinutes[t];
    }

    private int rateOfCarved(int t) {
        traced += 1000;
        return 2 * rateOfTurned(t);
    }

    private int rateOfSoup(int t) {
        traced += 10000;
        return rateOfGlued(t) + t;
    }

    private int rateOfReal(int t) {
        traced += 100000;
        return rateOfThing(t) + Integer.bitCount(home.peopleItFits(t));
    }

    // ---- what numbers may be, and fractions

    private static boolean isFirstOrSecond(int what) {
        return what == 0 || what == 1;
    }

    private static boolean isUse(int u) {
        return u >= 0 && u < USES;
    }

    private static boolean isSize(int z) {
        return z >= 1 && z <= MOST_SIZE;
    }

    private static long inLowestTerms(long upper, long lower, int what) {
        long divisor = greatestDivisor(upper, lower);
        if (divisor == 0) {
            return 0;
        }
        return (what == 0 ? upper : lower) / divisor;
    }

    private static long greatestDivisor(long a, long b) {
        // Euclid's remainders halve at least every second step: 200 are more than a long can take.
        for (int step = 0; step < 200 && b != 0; step++) {
            long rest = a % b;
            a = b;
            b = rest;
        }
        return a;
    }

    private static long waysToChoose(int n, int k) {
        long ways = 1;
        for (int i = 1; i <= k; i++) {
            ways = ways * (n - i + 1) / i;
        }
        return ways;
    }

    private static long power(int base, int exponent) {
        long product = 1;
        for (int i = 0; i < exponent; i++) {
            product *= base;
        }
        return product;
    }

    /** What a text tells; nothing that is done changes it, only another text. */
    private static final class Tale {
        private static final int[] LOW_AT_FIRST = {4, 20, 21};
        private static final int[] HIGH_AT_FIRST = {6, 24, 40};

        final int[] low = new int[USES];
        final int[] high = new int[USES];
        int things;
        final int[] thingUse = new int[MOST_THINGS];
        final int[] thingScale = new int[MOST_THINGS];
        final int[] thingSize = new int[MOST_THINGS];
        final int[] thingMinutes = new int[MOST_THINGS];
        int people;
        final int[] personScale = new int[MOST_PEOPLE];
        final int[] personSize = new int[MOST_PEOPLE];
        int doors;
        final int[] doorFrom = new int[MOST_DOORS];
        final int[] doorUntil = new int[MOST_DOORS];
        final int[] doorScale = new int[MOST_DOORS];
        final int[] doorSize = new int[MOST_DOORS];

        Tale() {
            beginAsAtFirst();
        }

        void beginAsAtFirst() {
            for (int u = 0; u < USES; u++) {
                low[u] = LOW_AT_FIRST[u];
                high[u] = HIGH_AT_FIRST[u];
            }
            things = 0;
            people = 0;
            doors = 0;
        }
    }

    /** The text, and the reading of it up to the first token that can't stand where it is. */
    private static final class Text {
        static final int NO_FAULT = -1;

        private static final int MOST_TWENTIETHS = 60;
        private static final int MOST_MINUTES = 9;
        private static final int MOST_FROM = 60;
        private static final int MOST_UNTIL = 99;

        private static final char NUMBER = '0';
        private static final char END = '.';
        private static final char WRONG = '?';

        private final char[] letters = new char[MOST_LETTERS];
        private int length;
        private Tale tale = new Tale();
        private int place;
        private char token;
        private int tokenPlace;
        private int tokenValue;
        private int fault;
        private int items;

        int size() {
            return length;
        }

        boolean isFull() {
            return length >= MOST_LETTERS;
        }

        void add(char letter) {
            if (!isFull()) {
                letters[length] = letter;
                length++;
            }
        }

        void loseAll() {
            length = 0;
        }

        /** The place of the fault, or NO_FAULT. */
        int readAll() {
            tale.beginAsAtFirst();
            place = 0;
            fault = NO_FAULT;
            items = 0;
            takeToken();
            for (int i = 0; i < MOST_LETTERS && token != END && fault == NO_FAULT; i++) {
                switch (token) {
                    case 'k': readLaw(); break;
                    case 't': readThing(); break;
                    case 'p': readPerson(); break;
                    case 'd': readDoor(); break;
                    default: refuseToken(); break;
                }
                takeEndOfItem();
                items++;
            }
            return fault;
        }

        int itemsRead() {
            return items;
        }

        /** What was read, for a tale that is told no more: the next reading uses that one again. */
        Tale giveTaleFor(Tale former) {
            Tale told = tale;
            tale = former;
            return told;
        }

        private void readLaw() {
            int u = takeNumber(0, USES - 1);
            int low = takeNumber(0, MOST_TWENTIETHS);
            int high = takeNumber(low, MOST_TWENTIETHS);
            tale.low[u] = low;
            tale.high[u] = high;
        }

        private void readThing() {
            int t = tale.things;
            if (t >= MOST_THINGS) {
                refuseToken();
                return;
            }
            tale.thingUse[t] = takeNumber(0, USES - 1);
            tale.thingScale[t] = takeNumber(1, MOST_SCALE);
            tale.thingSize[t] = takeNumber(1, MOST_SIZE);
            tale.thingMinutes[t] = takeNumber(1, MOST_MINUTES);
            tale.things++;
        }

        private void readPerson() {
            int p = tale.people;
            if (p >= MOST_PEOPLE) {
                refuseToken();
                return;
            }
            tale.personScale[p] = takeNumber(1, MOST_SCALE);
            tale.personSize[p] = takeNumber(1, MOST_SIZE);
            tale.people++;
        }

        private void readDoor() {
            int d = tale.doors;
            if (d >= MOST_DOORS) {
                refuseToken();
                return;
            }
            tale.doorFrom[d] = takeNumber(0, MOST_FROM);
            tale.doorUntil[d] = takeNumber(tale.doorFrom[d] + 1, MOST_UNTIL);
            tale.doorScale[d] = takeNumber(1, MOST_SCALE);
            tale.doorSize[d] = takeNumber(1, MOST_SIZE);
            tale.doors++;
        }

        /** The number that comes next; behind a fault any number will do, nothing is told by it. */
        private int takeNumber(int least, int most) {
            takeToken();
            if (token == NUMBER && tokenValue >= least && tokenValue <= most) {
                return tokenValue;
            }
            refuseToken();
            return least;
        }

        private void takeEndOfItem() {
            takeToken();
            if (token != ';') {
                refuseToken();
            }
            takeToken();
        }

        /** The first token that is refused is the fault. */
        private void refuseToken() {
            if (fault == NO_FAULT) {
                fault = tokenPlace;
            }
        }

        private void takeToken() {
            while (place < length && letters[place] == ' ') {
                place++;
            }
            tokenPlace = place;
            if (place >= length) {
                token = END;
            } else if (isDigit(letters[place])) {
                takeDigits();
            } else {
                token = isOwnToken(letters[place]) ? letters[place] : WRONG;
                place++;
            }
        }

        private void takeDigits() {
            tokenValue = 0;
            while (place < length && isDigit(letters[place])) {
                // What is above 99 need not be known closer, and so never gets too large.
                tokenValue = Math.min(10 * tokenValue + letters[place] - '0', 100);
                place++;
            }
            boolean zeroAhead = letters[tokenPlace] == '0' && place - tokenPlace > 1;
            token = zeroAhead || tokenValue > 99 ? WRONG : NUMBER;
        }

        private static boolean isDigit(char letter) {
            return letter >= '0' && letter <= '9';
        }

        private static boolean isOwnToken(char letter) {
            return letter == 'k' || letter == 't' || letter == 'p' || letter == 'd' || letter == ';';
        }
    }

    /** All that can be undone or kept: whose the things are, and every scale. */
    private static final class Now {
        final int[] owner = new int[MOST_THINGS];
        final int[] thingScale = new int[MOST_THINGS];
        final int[] personScale = new int[MOST_PEOPLE];

        /** As told; of a new object nothing is told, and so nothing of this is asked. */
        void beginAsTold(Tale tale) {
            Arrays.fill(owner, NONE);
            System.arraycopy(tale.thingScale, 0, thingScale, 0, MOST_THINGS);
            System.arraycopy(tale.personScale, 0, personScale, 0, MOST_PEOPLE);
        }

        void copyFrom(Now other) {
            System.arraycopy(other.owner, 0, owner, 0, MOST_THINGS);
            System.arraycopy(other.thingScale, 0, thingScale, 0, MOST_THINGS);
            System.arraycopy(other.personScale, 0, personScale, 0, MOST_PEOPLE);
        }
    }

    /** What stood ahead of each of the latest changes: a ring, in which the oldest gives way. */
    private static final class History {
        private final Now[] rows = new Now[MOST_UNDONE];
        private int oldest;
        private int held;

        History() {
            for (int i = 0; i < MOST_UNDONE; i++) {
                rows[i] = new Now();
            }
        }

        int size() {
            return held;
        }

        void loseAll() {
            held = 0;
        }

        void remember(Now now) {
            if (held == MOST_UNDONE) {
                oldest = (oldest + 1) % MOST_UNDONE;
                held--;
            }
            rows[(oldest + held) % MOST_UNDONE].copyFrom(now);
            held++;
        }

        void restoreLatest(Now now) {
            if (held > 0) {
                held--;
                now.copyFrom(rows[(oldest + held) % MOST_UNDONE]);
            }
        }
    }

    /** What was told and how it is now, and what follows from both. */
    private static final class House {
        Tale tale = new Tale();
        final Now now = new Now();

        boolean hasThing(int t) {
            return t >= 0 && t < tale.things;
        }

        boolean hasPerson(int p) {
            return p >= 0 && p < tale.people;
        }

        boolean fitsPerson(int t, int p) {
            return fitsAtScale(t, now.thingScale[t], tale.personSize[p], now.personScale[p]);
        }

        boolean fitsStranger(int t, int size, int scale) {
            return fitsAtScale(t, now.thingScale[t], size, scale);
        }

        private boolean fitsAtScale(int t, int thingScale, int size, int scale) {
            int u = tale.thingUse[t];
            int big = 20 * tale.thingSize[t] * scale;
            int tall = size * thingScale;
            return tale.low[u] * tall <= big && big <= tale.high[u] * tall;
        }

        int peopleItFits(int t) {
            int people = 0;
            for (int p = 0; p < tale.people; p++) {
                if (fitsPerson(t, p)) {
                    people |= 1 << p;
                }
            }
            return people;
        }

        int useless() {
            int things = 0;
            for (int t = 0; t < tale.things; t++) {
                if (peopleItFits(t) == 0) {
                    things |= 1 << t;
                }
            }
            return things;
        }

        int bareOf(int u) {
            int bare = (1 << tale.people) - 1;
            for (int t = 0; t < tale.things; t++) {
                if (tale.thingUse[t] == u) {
                    bare &= ~peopleItFits(t);
                }
            }
            return bare;
        }

        int thingsOf(int p) {
            int things = 0;
            for (int t = 0; t < tale.things; t++) {
                if (now.owner[t] == p) {
                    things |= 1 << t;
                }
            }
            return things;
        }

        int ownedThings() {
            int things = 0;
            for (int t = 0; t < tale.things; t++) {
                if (now.owner[t] != NONE) {
                    things |= 1 << t;
                }
            }
            return things;
        }

        boolean canLay(int t, int p) {
            return now.owner[t] == NONE && fitsPerson(t, p) && !hasOneOf(p, tale.thingUse[t]);
        }

        private boolean hasOneOf(int p, int u) {
            for (int t = 0; t < tale.things; t++) {
                if (now.owner[t] == p && tale.thingUse[t] == u) {
                    return true;
                }
            }
            return false;
        }

        void freeWhatDoesNotFit() {
            for (int t = 0; t < tale.things; t++) {
                if (now.owner[t] != NONE && !fitsPerson(t, now.owner[t])) {
                    now.owner[t] = NONE;
                }
            }
        }

        int twosIfAllThingsWere(int scale) {
            int twos = 0;
            for (int t = 0; t < tale.things; t++) {
                for (int p = 0; p < tale.people; p++) {
                    if (fitsAtScale(t, scale, tale.personSize[p], now.personScale[p])) {
                        twos++;
                    }
                }
            }
            return twos;
        }

        int thingsFitting(int size, int scale) {
            int fitting = 0;
            for (int t = 0; t < tale.things; t++) {
                if (fitsStranger(t, size, scale)) {
                    fitting++;
                }
            }
            return fitting;
        }

        int smallerThan(int p) {
            int smaller = 0;
            for (int q = 0; q < tale.people; q++) {
                int other = tale.personSize[q] * now.personScale[p];
                if (other < tale.personSize[p] * now.personScale[q]) {
                    smaller++;
                }
            }
            return smaller;
        }

        int chairs() {
            int chairs = 0;
            for (int t = 0; t < tale.things; t++) {
                if (tale.thingUse[t] == CHAIR) {
                    chairs++;
                }
            }
            return chairs;
        }

        /** A multiple of every person's scale: by it heights are whole numbers. */
        long commonScale() {
            long product = 1;
            for (int p = 0; p < tale.people; p++) {
                product *= now.personScale[p];
            }
            return product;
        }

        long heightOf(int p, long unit) {
            int scale = now.personScale[p];
            return scale == 0 ? 0 : tale.personSize[p] * (unit / scale);
        }

        long heightOfAll(long unit) {
            long all = 0;
            for (int p = 0; p < tale.people; p++) {
                all += heightOf(p, unit);
            }
            return all;
        }
    }

    /** What was tried on a stranger, and of which scales he may be by it. */
    private static final class Trials {
        private final int[] thingTried = new int[MOST_TRIED];
        private final boolean[] didFit = new boolean[MOST_TRIED];
        private int held;

        int size() {
            return held;
        }

        boolean isFull() {
            return held >= MOST_TRIED;
        }

        void loseAll() {
            held = 0;
        }

        void add(int t, boolean fits) {
            if (!isFull()) {
                thingTried[held] = t;
                didFit[held] = fits;
                held++;
            }
        }

        private boolean allow(House house, int size, int scale) {
            for (int i = 0; i < held; i++) {
                if (house.fitsStranger(thingTried[i], size, scale) != didFit[i]) {
                    return false;
                }
            }
            return true;
        }

        int scalesLeft(House house, int size) {
            int left = 0;
            for (int s = 1; s <= MOST_SCALE; s++) {
                if (allow(house, size, s)) {
                    left++;
                }
            }
            return left;
        }

        int leastScale(House house, int size) {
            for (int s = 1; s <= MOST_SCALE; s++) {
                if (allow(house, size, s)) {
                    return s;
                }
            }
            return NONE;
        }

        int leftAtWorst(House house, int size, int t) {
            int ifFits = 0;
            int ifNot = 0;
            for (int s = 1; s <= MOST_SCALE; s++) {
                if (allow(house, size, s)) {
                    if (house.fitsStranger(t, size, s)) {
                        ifFits++;
                    } else {
                        ifNot++;
                    }
                }
            }
            return Math.max(ifFits, ifNot);
        }

        int bestToTry(House house, int size) {
            int best = NONE;
            int fewest = MOST_SCALE + 1;
            for (int t = 0; t < house.tale.things; t++) {
                int left = leftAtWorst(house, size, t);
                if (left < fewest) {
                    best = t;
                    fewest = left;
                }
            }
            return best;
        }
    }

    /** Who can have a thing of each use at once, whatever is laid now. */
    private static final class Housing {
        /** The thing of each person in the laying of one use that is being looked for. */
        private final int[] thingOf = new int[MOST_PEOPLE];

        /** As bits; going upwards, the first of as many people are the least bits. */
        int mostPeople(House house) {
            int best = 0;
            for (int people = 1; people < 1 << house.tale.people; people++) {
                if (Integer.bitCount(people) > Integer.bitCount(best) && canHouse(house, people)) {
                    best = people;
                }
            }
            return best;
        }

        int firstThingOf(House house, int p, int u) {
            int people = mostPeople(house);
            if ((people >> p & 1) == 0 || !layFrom(house, u, people, 0, 0, thingOf)) {
                return NONE;
            }
            return thingOf[p];
        }

        private boolean canHouse(House house, int people) {
            for (int u = 0; u < USES; u++) {
                if (!layFrom(house, u, people, 0, 0, thingOf)) {
                    return false;
                }
            }
            return true;
        }

        /** Lays things of a use to those of the people who are p or behind him, lowest things first. */
        private static boolean layFrom(House house, int u, int people, int p, int taken, int[] thingOf) {
            if (p >= house.tale.people || p >= thingOf.length) {
                return true;
            }
            if ((people >> p & 1) == 0) {
                return layFrom(house, u, people, p + 1, taken, thingOf);
            }
            for (int t = 0; t < house.tale.things; t++) {
                boolean free = house.tale.thingUse[t] == u && (taken >> t & 1) == 0;
                if (free && house.fitsPerson(t, p)
                        && layFrom(house, u, people, p + 1, taken | 1 << t, thingOf)) {
                    thingOf[p] = t;
                    return true;
                }
            }
            return false;
        }
    }

    /** How soon all is carried in, by sets of things (bits) instead of all their orders. */
    private static final class Carrying {
        private static final int NEVER = 1000;
        private static final int TOO_LATE = -1;
        private static final int SETS = 1 << MOST_THINGS;

        /** By the set that is in: the soonest minute for it. */
        private final int[] soonest = new int[SETS];
        /** By the set that is still out: the latest minute at which it is not too late for it. */
        private final int[] latest = new int[SETS];

        int fewestMinutes(House house) {
            int all = (1 << house.tale.things) - 1;
            soonest[0] = 0;
            for (int in = 1; in <= all; in++) {
                soonest[in] = NEVER;
                for (int t = 0; t < house.tale.things; t++) {
                    if ((in >> t & 1) == 1) {
                        int end = endOf(house, t, soonest[in ^ 1 << t]);
                        soonest[in] = Math.min(soonest[in], end);
                    }
                }
            }
            return soonest[all] == NEVER ? NONE : soonest[all];
        }

        /** The k-th thing of the first order by which all are in at that minute. */
        int inFirstOrder(House house, int minutes, int k) {
            findLatest(house, minutes);
            int out = (1 << house.tale.things) - 1;
            int minute = 0;
            int carried = NONE;
            for (int i = 0; i <= k && out != 0; i++) {
                carried = lowestInTime(house, out, minute);
                if (carried == NONE) {
                    return NONE;
                }
                minute = endOf(house, carried, minute);
                out ^= 1 << carried;
            }
            return carried;
        }

        private void findLatest(House house, int minutes) {
            latest[0] = minutes;
            for (int out = 1; out < 1 << house.tale.things; out++) {
                latest[out] = TOO_LATE;
                for (int t = 0; t < house.tale.things; t++) {
                    if ((out >> t & 1) == 1) {
                        int start = latestStartOf(house, t, latest[out ^ 1 << t]);
                        latest[out] = Math.max(latest[out], start);
                    }
                }
            }
        }

        private int lowestInTime(House house, int out, int minute) {
            for (int t = 0; t < house.tale.things; t++) {
                if ((out >> t & 1) == 1 && endOf(house, t, minute) <= latest[out ^ 1 << t]) {
                    return t;
                }
            }
            return NONE;
        }

        /** When a thing is in at the soonest, if it is not carried ahead of a minute. */
        private static int endOf(House house, int t, int minute) {
            Tale tale = house.tale;
            int soonestEnd = NEVER;
            for (int d = 0; d < tale.doors; d++) {
                int end = Math.max(minute, tale.doorFrom[d]) + tale.thingMinutes[t];
                if (end <= tale.doorUntil[d] && goesThrough(house, t, d)) {
                    soonestEnd = Math.min(soonestEnd, end);
                }
            }
            return soonestEnd;
        }

        /** When a thing must be begun at the latest, to be in by a minute. */
        private static int latestStartOf(House house, int t, int minute) {
            Tale tale = house.tale;
            int latestStart = TOO_LATE;
            for (int d = 0; d < tale.doors; d++) {
                int start = Math.min(minute, tale.doorUntil[d]) - tale.thingMinutes[t];
                if (start >= tale.doorFrom[d] && goesThrough(house, t, d)) {
                    latestStart = Math.max(latestStart, start);
                }
            }
            return latestStart;
        }

        private static boolean goesThrough(House house, int t, int d) {
            int thing = house.tale.thingSize[t] * house.tale.doorScale[d];
            return house.tale.doorSize[d] * house.now.thingScale[t] >= thing;
        }
    }
}
