/**
 * Promises 14 to 26: each sentence of the document about what is asked that names an edge has a method
 * of its own here; the sentence stands above it.
 */
public final class AnswerEdgesTest {
    private static final Check CHECK = new Check("AnswerEdgesTest");
    private static final int BAD = TwoScales.BAD, FULL = TwoScales.FULL, NONE = TwoScales.NONE;
    private static final int NOT_SO_MANY = -5;
    private static final int MIN = Integer.MIN_VALUE, MAX = Integer.MAX_VALUE;

    /** Laws by which all up to three times as big as somebody is tall FITS him. */
    private static final String ANY = "k0 0 60;k1 0 60;k2 0 60;";
    private static final String CHAIR = "t0 1 1 1;", BED = "t1 1 1 1;", GATE = "t2 1 1 1;", PERSON = "p1 1;";

    private AnswerEdgesTest() {
    }

    private static void due(String call, long got, long want) {
        CHECK.due(call, got, want);
    }

    private static TwoScales told(String text) {
        return Check.told(text);
    }

    public static void main(String[] args) {
        housedNobody();
        housedByEachKindOfUse();
        housedTheMost();
        housedTheLeastOfAsMany();
        housedWhateverIsLaid();
        housedMoreAheadOfLess();
        layingTheFirst();
        layingThatLeavesEnough();
        layingNone();
        layingRefused();
        sixAreTried();
        triesRefused();
        forgotten();
        mayBeIfNothingWasTried();
        mayBeAtLowAndAtHigh();
        mayBeNone();
        mayBeByThingsAsTheyAre();
        sizesOfStrangers();
        nextAtWorst();
        nextOfSeveralTheLowest();
        nextOfNoThings();
        bestScaleOfNone();
        bestScaleOfSeveralTheLeast();
        bestScaleAtTheEdges();
        oneMoreOfNone();
        oneMoreAtTheEdges();
        carriedNothing();
        carriedByNoDoor();
        carriedAllTheWhile();
        carriedByADoorNoSmaller();
        carriedOneAtATime();
        carriedFromMinute0();
        carriedUntilMinute99();
        carriedInTheFirstOrder();
        carriedAskedAgain();
        carriedNotSoMany();
        carriedNoneWhateverKIs();
        meanOfNobody();
        meanInLowestTerms();
        turnsOfNoChairsOrNobody();
        turnsWhetherItFitsOrNot();
        sharesAreCut();
        sharesOfCrumbs();
        oddsOfUselessOnes();
        oddsAtTheEdges();
        oddsRefused();
        CHECK.end();
    }

    // ---- who can have what

    private static void housed(String text, int people) {
        TwoScales x = told(text);
        due("how many of '" + text + "'", x.housed(0), Integer.bitCount(people));
        due("who of '" + text + "'", x.housed(1), people);
    }

    // "HOUSED: the most PEOPLE who can have ..": nobody there, nothing there.
    private static void housedNobody() {
        housed("", 0);
        housed(ANY + PERSON.repeat(5), 0);
        housed(ANY + CHAIR + BED + GATE, 0);
        TwoScales x = new TwoScales();
        for (int what : new int[] {MIN, -1, 2, MAX}) {
            due("housed(" + what + ")", x.housed(what), BAD);
        }
    }

    // "a THING of each KIND OF USE at once"
    private static void housedByEachKindOfUse() {
        housed(ANY + CHAIR + BED + GATE + PERSON, 1);
        housed(ANY + BED.repeat(3) + GATE.repeat(3) + PERSON, 0);
        housed(ANY + CHAIR.repeat(3) + GATE.repeat(3) + PERSON, 0);
        housed(ANY + CHAIR.repeat(3) + BED.repeat(3) + PERSON, 0);
        housed(ANY + CHAIR.repeat(4) + BED + GATE + PERSON.repeat(5), 1);
        housed(ANY + CHAIR + BED.repeat(4) + GATE + PERSON.repeat(5), 1);
        housed(ANY + CHAIR + BED + GATE.repeat(4) + PERSON.repeat(5), 1);
        // One is there of each, but the gate FITS nobody, or each FITS another.
        housed("k0 0 60;k1 0 60;k2 0 0;" + CHAIR + BED + GATE + PERSON, 0);
        housed("t0 1 5 1;t1 1 30 1;t2 1 60 1;p1 20;p1 30;p1 50;", 0);
    }

    // "the most PEOPLE": two, if the first PERSON has the second chair.
    private static void housedTheMost() {
        housed(ANY + (CHAIR + BED + GATE).repeat(2) + PERSON.repeat(5), 3);
        housed(ANY + (CHAIR + BED + GATE).repeat(2) + PERSON, 1);
        housed("k1 0 60;k2 0 60;t0 1 4 1;t0 1 6 1;" + (BED + GATE).repeat(2) + "p1 20;p1 16;", 3);
        // Both chairs FIT 0 alone: the second PERSON has none.
        housed("k1 0 60;k2 0 60;t0 1 5 1;t0 1 6 1;" + (BED + GATE).repeat(2) + "p1 20;p1 16;", 1);
    }

    // "those (bits; of as many the least)"
    private static void housedTheLeastOfAsMany() {
        housed(ANY + CHAIR + BED + GATE + PERSON.repeat(5), 1);
        // Nothing three times as big as he is FITS the first ones.
        String big = "t0 1 60 1;t1 1 60 1;t2 1 60 1;";
        housed(ANY + big + "p1 19;p1 20;p1 20;p1 20;p1 20;", 2);
        housed(ANY + big + "p1 19;p1 19;p1 19;p1 19;p1 20;", 16);
        housed(ANY + big + big + "p1 19;p1 20;p1 20;p1 19;p1 20;", 6);
        housed(ANY + big + big + "p1 20;p1 19;p1 19;p1 20;p1 20;", 9);
        housed(ANY + big + big + "p1 19;p1 19;p1 19;p1 20;p1 20;", 24);
    }

    // "(whatever is LAID NOW)"
    private static void housedWhateverIsLaid() {
        TwoScales x = told(ANY + CHAIR + BED + GATE + PERSON.repeat(3));
        for (int t = 0; t < 3; t++) {
            due("LAID", x.lays(t, 2), t + 1);
            due("the least still", x.housed(1), 1);
            due("laying", x.laying(0, t), t);
            due("laying of who has it", x.laying(2, t), NONE);
        }
        due("nothing is changed", x.person(2, 2), 7);
        x.rescales(0, 0, 48);
        due("by the SCALES now", x.housed(1), 2);
        x.undo();
        due("as it was", x.housed(1), 1);
    }

    // "the most PEOPLE .., those (.. of as many the least)": two others ahead of the first one alone.
    private static void housedMoreAheadOfLess() {
        // Of chairs 0 and 1 share the first, of beds 0 and 2 the first: so 0 goes with neither.
        TwoScales x = told("k2 0 60;t0 1 5 1;t0 1 8 1;t1 1 28 1;t1 1 20 1;" + GATE + GATE + "p1 24;p1 20;p1 28;");
        int[] fits = {3, 4, 5, 2, 7, 7};
        for (int t = 0; t < 6; t++) {
            due("FITS " + t, x.thing(t, 5), fits[t]);
        }
        due("two", x.housed(0), 2);
        due("not the first", x.housed(1), 6);
        int[][] layings = {{NONE, NONE, NONE}, {0, 3, 4}, {1, 2, 5}};
        for (int p = 0; p < 3; p++) {
            for (int u = 0; u < 3; u++) {
                due("laying(" + p + ", " + u + ")", x.laying(p, u), layings[p][u]);
            }
        }
    }

    // "of all layings for these the first (by KINDS OF USE, in each by PERSON, the lowest THING first)"
    private static void layingTheFirst() {
        TwoScales x = told(ANY + GATE + BED + CHAIR + BED + GATE + CHAIR + PERSON.repeat(2));
        int[][] layings = {{2, 1, 0}, {5, 3, 4}};
        for (int p = 0; p < 2; p++) {
            for (int u = 0; u < 3; u++) {
                due("laying(" + p + ", " + u + ")", x.laying(p, u), layings[p][u]);
            }
        }
        // More chairs than are needed: the lowest ones.
        x = told(ANY + CHAIR.repeat(3) + BED + GATE + CHAIR + PERSON);
        due("the lowest chair", x.laying(0, 0), 0);
        due("the bed", x.laying(0, 1), 3);
        // The lowest that FITS: the first chair is too big.
        x = told(ANY + "t0 1 9 1;" + CHAIR.repeat(2) + BED + GATE + PERSON);
        due("the lowest that FITS", x.laying(0, 0), 1);
    }

    // The same: the lowest THING, if all the others can have theirs then.
    private static void layingThatLeavesEnough() {
        TwoScales x = told("k1 0 60;k2 0 60;t0 1 4 1;t0 1 6 1;" + (BED + GATE).repeat(2) + "p1 20;p1 16;");
        due("both", x.housed(1), 3);
        due("the first leaves the lower chair", x.laying(0, 0), 1);
        due("the second has it", x.laying(1, 0), 0);
        due("beds are not touched by that", x.laying(0, 1), 2);
        due("beds are not touched by that", x.laying(1, 1), 4);
        // Who is not of them does not have to be left anything: the second PERSON has a chair, but no bed.
        x = told("k1 20 20;k2 0 60;t0 1 4 1;t0 1 6 1;t1 1 20 1;" + GATE + "p1 20;p1 16;");
        due("the first alone", x.housed(1), 1);
        due("so the lower chair is his", x.laying(0, 0), 0);
    }

    // "The THING of a PERSON of a KIND OF USE, as HOUSED; NONE."
    private static void layingNone() {
        TwoScales x = told(ANY + CHAIR + BED + GATE + PERSON.repeat(2));
        for (int u = 0; u < 3; u++) {
            due("of one of them", x.laying(0, u), u);
            due("of who is not of them", x.laying(1, u), NONE);
        }
        x = told(ANY + CHAIR + BED + PERSON);
        for (int u = 0; u < 3; u++) {
            due("of nobody HOUSED", x.laying(0, u), NONE);
        }
    }

    // The same: "BAD."
    private static void layingRefused() {
        TwoScales x = told(ANY + CHAIR + BED + GATE + PERSON.repeat(2));
        for (int bad : new int[] {MIN, -1, 2, 5, MAX}) {
            due("laying(" + bad + ", 0)", x.laying(bad, 0), BAD);
        }
        for (int bad : new int[] {MIN, -1, 3, MAX}) {
            due("laying(0, " + bad + ")", x.laying(0, bad), BAD);
            due("laying(1, " + bad + "): BAD ahead of NONE", x.laying(1, bad), BAD);
        }
        due("nobody is there", new TwoScales().laying(0, 0), BAD);
    }

    // ---- strangers

    // "TRIED (6 at most)"; "how much there is. BAD; FULL."
    private static void sixAreTried() {
        TwoScales x = told(CHAIR + BED);
        for (int i = 1; i <= 6; i++) {
            due("tries " + i, x.tries(0, 0), i);
            due("count", x.count(3), i);
        }
        due("the seventh", x.tries(0, 0), FULL);
        due("the seventh, of another", x.tries(1, 1), FULL);
        due("six there are", x.count(3), 6);
        due("the seventh does not count: all SCALES of 1 are left", x.mayBe(1, 0), 48);
        due("BAD ahead of FULL: THING", x.tries(2, 0), BAD);
        due("BAD ahead of FULL: fits", x.tries(0, 2), BAD);
        // The bed FITS one of SIZE 1 at SCALE 1 alone, the chair at none.
        due("next() all the same", x.next(1, 0), 1);
        due("next() all the same", x.next(1, 1), 47);
    }

    // "TRIED on the stranger (fits 1, 0) .. BAD"
    private static void triesRefused() {
        TwoScales x = told(CHAIR + BED);
        for (int bad : new int[] {MIN, -1, 2, 6, MAX}) {
            due("tries(" + bad + ", 1)", x.tries(bad, 1), BAD);
            due("tries(1, " + bad + ")", x.tries(1, bad), BAD);
        }
        due("nothing was TRIED", x.count(3), 0);
        due("no THINGS", new TwoScales().tries(0, 0), BAD);
        due("the last THING", x.tries(1, 1), 1);
    }

    // "Nothing was TRIED: how much there was."
    private static void forgotten() {
        TwoScales x = told("t0 1 2 1;");
        due("nothing", x.forget(), 0);
        for (int i = 1; i <= 6; i++) {
            x.tries(0, i % 2);
        }
        due("six", x.forget(), 6);
        due("nothing any more", x.forget(), 0);
        due("count", x.count(3), 0);
        due("all may be", x.mayBe(60, 0), 48);
        due("there is room", x.tries(0, 1), 1);
        due("by the new one alone", x.mayBe(60, 0), 4);
    }

    private static void mayBe(TwoScales x, int z, int many, int least) {
        due("mayBe of " + z + ": how many", x.mayBe(z, 0), many);
        due("mayBe of " + z + ": the least", x.mayBe(z, 1), least);
    }

    // "SCALES (1 .. 48) at which one of SIZE z would have all that was TRIED so": all, if nothing was.
    private static void mayBeIfNothingWasTried() {
        mayBe(new TwoScales(), 1, 48, 1);
        mayBe(new TwoScales(), 99, 48, 1);
        mayBe(told("k0 0 0;" + CHAIR + PERSON), 50, 48, 1);
    }

    // The same, with FITS: at LOW and at HIGH, too.
    private static void mayBeAtLowAndAtHigh() {
        // A chair 2 big FITS who is from 20 by 3 to 10 tall: of 60 at 6 (LOW) to 9 (HIGH); of 59 at 6 to 8.
        TwoScales x = told("t0 1 2 1;");
        x.tries(0, 1);
        mayBe(x, 60, 4, 6);
        mayBe(x, 59, 3, 6);
        mayBe(x, 61, 3, 7);
        mayBe(x, 99, 5, 10);
        mayBe(x, 10, 1, 1);
        mayBe(x, 11, 0, NONE);
        mayBe(x, 6, 0, NONE);
        mayBe(x, 7, 1, 1);
        x.tries(0, 1);
        mayBe(x, 60, 4, 6);
        x.forget();
        x.tries(0, 0);
        mayBe(x, 60, 44, 1);
        mayBe(x, 10, 47, 2);
        mayBe(x, 11, 48, 1);
        // 48 is one of them, 49 is not: as tall as the bed of 96 by 48, or of 98 by 49 (2 big).
        x = told("k1 20 20;t1 1 2 1;");
        x.tries(0, 1);
        mayBe(x, 96, 1, 48);
        mayBe(x, 98, 0, NONE);
        mayBe(x, 2, 1, 1);
        mayBe(x, 1, 0, NONE);
    }

    // "how many; the least; NONE"
    private static void mayBeNone() {
        TwoScales x = told("t0 1 2 1;k1 0 60;t1 48 1 1;");
        x.tries(0, 1);
        x.tries(0, 0);
        mayBe(x, 60, 0, NONE);
        x.forget();
        x.tries(1, 0);
        mayBe(x, 60, 0, NONE);
    }

    // "(so by THINGS as they are when it is asked)"
    private static void mayBeByThingsAsTheyAre() {
        TwoScales x = told("t0 1 2 1;p1 60;");
        x.keep(0);
        x.tries(0, 1);
        mayBe(x, 60, 4, 6);
        x.rescales(1, 0, 2);
        mayBe(x, 60, 7, 12);
        x.undo();
        mayBe(x, 60, 4, 6);
        x.rescales(1, 0, 3);
        mayBe(x, 60, 10, 18);
        x.back(0);
        mayBe(x, 60, 4, 6);
        x.rescales(0, 0, 7);
        mayBe(x, 60, 4, 6);
        due("by whosever it is", x.lays(0, 0), 1);
        mayBe(x, 60, 4, 6);
    }

    // "SIZE z (1 .. 99)"
    private static void sizesOfStrangers() {
        TwoScales x = told(CHAIR + PERSON);
        for (int z : new int[] {MIN, -1, 0, 100, MAX}) {
            for (int what = 0; what < 2; what++) {
                due("mayBe(" + z + ", " + what + ")", x.mayBe(z, what), BAD);
                due("next(" + z + ", " + what + ")", x.next(z, what), BAD);
                due("oneMore(" + z + ", " + what + ")", x.oneMore(z, what), BAD);
            }
        }
        for (int what : new int[] {MIN, -1, 2, MAX}) {
            for (int z = 1; z <= 99; z += 98) {
                due("mayBe(" + z + ", " + what + ")", x.mayBe(z, what), BAD);
                due("next(" + z + ", " + what + ")", x.next(z, what), BAD);
                due("oneMore(" + z + ", " + what + ")", x.oneMore(z, what), BAD);
            }
            due("bestScale(" + what + ")", x.bestScale(what), BAD);
        }
        due("of SIZE 1", x.mayBe(1, 0), 48);
        due("of SIZE 99", x.mayBe(99, 0), 48);
    }

    private static void next(TwoScales x, int z, int thing, int many) {
        due("next of " + z + ": the THING", x.next(z, 0), thing);
        due("next of " + z + ": as many", x.next(z, 1), many);
    }

    // "NEXT: the THING by which, tried on that one, fewest of these SCALES are left at worst"
    private static void nextAtWorst() {
        // By this law a chair FITS who is as tall as it is big, and taller: of 48 at SCALES up to 48 by that.
        TwoScales x = told("k0 0 20;t0 1 1 1;t0 1 3 1;t0 1 2 1;t0 1 4 1;t0 2 4 1;");
        next(x, 48, 2, 24);
        x.tries(2, 1);
        next(x, 48, 3, 12);
        x.tries(3, 0);
        next(x, 48, 1, 8);
        x.tries(1, 1);
        next(x, 48, 0, 4);
        x.tries(2, 0);
        next(x, 48, 0, 0);
        x.forget();
        // At worst: of 6 the chair 1 big is for 6 SCALES, the one 2 big for 3, the ones 3, 4 big for 2, 1.
        next(x, 6, 0, 42);
        // By THINGS as they are: the first is as big as the third and ahead of it.
        x = told("k0 0 20;t0 1 1 1;t0 1 3 1;t0 1 2 1;");
        next(x, 48, 2, 24);
        x.rescales(1, 1, 2);
        next(x, 48, 2, 24);
        x.rescales(1, 2, 1);
        x.rescales(1, 1, 1);
        x.rescales(1, 2, 2);
        next(x, 48, 1, 32);
    }

    // "of several the lowest"
    private static void nextOfSeveralTheLowest() {
        TwoScales x = told("k0 0 20;t0 1 9 1;t0 1 2 1;t0 2 4 1;t0 1 2 1;");
        next(x, 48, 1, 24);
        // One for all SCALES and one for none of them leave as many: the lower one.
        x = told("k0 0 20;k1 0 0;t1 1 9 1;t0 1 1 1;");
        next(x, 48, 0, 48);
        x = told("k0 0 20;k1 0 0;t0 1 1 1;t1 1 9 1;");
        next(x, 48, 0, 48);
        // 12 that FIT and 36 that FIT leave 36 both.
        x = told("k0 0 20;k1 0 20;t0 1 4 1;t1 3 4 1;");
        next(x, 48, 0, 36);
    }

    // "NONE (no THINGS)"
    private static void nextOfNoThings() {
        next(new TwoScales(), 1, NONE, NONE);
        next(told(PERSON), 99, NONE, NONE);
        due("BAD ahead of NONE", new TwoScales().next(100, 0), BAD);
        due("BAD ahead of NONE", new TwoScales().next(1, 2), BAD);
    }

    private static void best(TwoScales x, int scale, int many) {
        due("bestScale: which", x.bestScale(0), scale);
        due("bestScale: as many", x.bestScale(1), many);
    }

    // "that at which most twos of a THING and a PERSON FIT, of several the least; as many": none at all.
    private static void bestScaleOfNone() {
        best(new TwoScales(), 1, 0);
        best(told(CHAIR), 1, 0);
        best(told(PERSON), 1, 0);
        best(told("k0 0 0;" + CHAIR + PERSON), 1, 0);
    }

    // "of several the least"
    private static void bestScaleOfSeveralTheLeast() {
        best(told(ANY + CHAIR.repeat(6) + "p1 99;p1 99;p1 99;p1 99;p1 99;"), 1, 30);
        // 99 by s is three times 1 at most from 33 on.
        best(told(ANY + "t0 1 99 1;t1 2 99 1;t2 3 99 1;" + PERSON), 33, 3);
        // One that FITS at 10 .. 15 and another at 20 .. 30: as many, the least; with two of the latter, that.
        best(told("t0 1 30 1;t0 1 60 1;p1 10;"), 10, 1);
        best(told("t0 1 30 1;t0 1 60 1;t0 1 60 1;p1 10;"), 20, 2);
        // The SCALE is that of all THINGS, whatever theirs is NOW; the PEOPLE's is theirs.
        TwoScales x = told("t0 48 30 1;p1 10;");
        best(x, 10, 1);
        x.rescales(1, 0, 2);
        best(x, 10, 1);
        x.rescales(0, 0, 2);
        best(x, 20, 1);
        due("nothing is changed", x.thing(0, 1), 2);
    }

    // "SCALE s (1 .. 48)"
    private static void bestScaleAtTheEdges() {
        best(told("k0 20 20;t0 9 7 1;p1 7;"), 1, 1);
        best(told("k0 20 20;t0 9 96 1;p1 2;"), 48, 1);
        best(told("k0 20 20;t0 9 98 1;p1 2;"), 49 - 48, 0);
        best(told("k0 20 20;t0 9 94 1;p1 2;"), 47, 1);
        best(told("k0 20 20;t0 9 4 1;p1 2;"), 2, 1);
    }

    private static void more(TwoScales x, int z, int scale, int many) {
        due("oneMore of " + z + ": which", x.oneMore(z, 0), scale);
        due("oneMore of " + z + ": as many", x.oneMore(z, 1), many);
    }

    // "ONE MORE: a PERSON more of SIZE z: the SCALE at which most THINGS FIT him, the least; as many."
    private static void oneMoreOfNone() {
        more(new TwoScales(), 1, 1, 0);
        more(new TwoScales(), 99, 1, 0);
        more(told("k0 0 0;" + CHAIR), 9, 1, 0);
        // Five are there already: a PERSON more may be asked for all the same, and does not come.
        TwoScales x = told(ANY + CHAIR.repeat(6) + PERSON.repeat(5));
        more(x, 99, 1, 6);
        due("five are there", x.count(1), 5);
    }

    // The same, at SCALES 1 and 48, and by the THINGS as they are.
    private static void oneMoreAtTheEdges() {
        more(told("k0 20 20;t0 1 2 1;"), 2, 1, 1);
        more(told("k0 20 20;t0 1 2 1;"), 96, 48, 1);
        more(told("k0 20 20;t0 1 2 1;"), 98, 1, 0);
        more(told("k0 20 20;t0 1 2 1;"), 94, 47, 1);
        more(told("k0 20 20;t0 1 99 1;"), 99, 1, 1);
        more(told("k0 20 20;t0 48 1 1;"), 1, 48, 1);
        // At 6 .. 9 the chair FITS one of 60, at 8 .. 9 the bed: both at 8; by the SCALE now of the bed at 15 .. 18.
        TwoScales x = told("t0 1 2 1;t1 1 8 1;");
        more(x, 60, 8, 2);
        x.rescales(1, 1, 2);
        more(x, 60, 6, 1);
        x = told("t0 1 2 1;t1 1 8 1;t1 2 8 1;t1 2 8 1;t1 2 8 1;");
        more(x, 60, 15, 3);
    }

    // ---- carrying, turns, shares

    private static void carried(String text, int minutes, int... order) {
        TwoScales x = told(text);
        due("minutes of '" + text + "'", x.carried(-1), minutes);
        for (int k = 0; k < order.length; k++) {
            due("the " + k + "-th of '" + text + "'", x.carried(k), order[k]);
        }
        due("one more of '" + text + "'", x.carried(order.length), minutes == NONE ? NONE : NOT_SO_MANY);
    }

    // "the fewest minutes from 0 by which all are in": no THINGS.
    private static void carriedNothing() {
        carried("", 0);
        carried(PERSON, 0);
        carried("d60 99 1 1;", 0);
    }

    // "through one DOOR": none there.
    private static void carriedByNoDoor() {
        carried(CHAIR, NONE, NONE);
        carried(CHAIR + PERSON, NONE, NONE);
    }

    // "for all its MINUTES through one DOOR that is open all the while"
    private static void carriedAllTheWhile() {
        carried("t0 1 1 1;d0 1 1 1;", 1, 0);
        carried("t0 1 1 2;d0 1 1 1;", NONE, NONE);
        carried("t0 1 1 9;d7 16 1 1;", 16, 0);
        carried("t0 1 1 9;d7 15 1 1;", NONE, NONE);
        carried("t0 1 1 6;d0 5 1 1;d5 10 1 1;", NONE, NONE);
        carried("t0 1 1 5;d0 5 1 1;d5 10 1 1;", 5, 0);
        carried("t0 1 1 5;t0 1 1 5;d0 5 1 1;d5 10 1 1;", 10, 0, 1);
        carried("t0 1 1 5;t0 1 1 5;d0 5 1 1;d4 9 1 1;", NONE, NONE);
        // Not all of them: then none is told.
        carried("t0 1 1 5;t0 1 1 6;d0 10 1 1;", NONE, NONE, NONE);
        carried("t0 1 1 5;t0 1 1 6;d0 11 1 1;", 11, 0, 1);
    }

    // "and no smaller than it"
    private static void carriedByADoorNoSmaller() {
        carried("t0 48 33 1;d0 9 16 11;", 1, 0);
        carried("t0 48 33 1;d0 9 16 10;", NONE, NONE);
        carried("t0 48 33 1;d0 9 47 32;", NONE, NONE);
        carried("t0 48 33 1;d0 9 45 31;", 1, 0);
        carried("t0 1 99 1;d0 9 1 99;", 1, 0);
        carried("t0 1 99 1;d0 9 1 98;", NONE, NONE);
        carried("t0 48 1 1;d0 9 48 1;", 1, 0);
        carried("t0 47 1 1;d0 9 48 1;", NONE, NONE);
        // The first DOOR is too small: it waits for the second.
        carried("t0 1 5 1;d0 9 1 4;d20 30 1 5;", 21, 0);
        // By the THING's SCALE now; whose it is and how tall they are is nothing to it.
        TwoScales x = told(ANY + "t0 2 9 1;d0 9 1 4;p1 9;");
        due("too small a DOOR", x.carried(-1), NONE);
        x.rescales(1, 0, 3);
        due("a smaller THING", x.carried(-1), 1);
        x.lays(0, 0);
        x.rescales(0, 0, 2);
        due("LAID, it is carried all the same", x.carried(-1), 1);
        x.rescales(1, 0, 1);
        due("a larger THING", x.carried(-1), NONE);
        x.undo();
        due("as it was", x.carried(0), 0);
    }

    // "one THING at a time"
    private static void carriedOneAtATime() {
        carried("t0 1 1 4;t0 1 1 4;d0 9 1 1;d0 9 1 1;", 8, 0, 1);
        carried("t0 1 1 4;t0 1 1 4;d0 7 1 1;d0 7 1 1;", NONE, NONE, NONE);
        carried("t0 1 1 4;t0 1 1 4;d0 4 1 1;d0 4 1 1;d0 8 1 1;", 8, 0, 1);
    }

    // "from 0": a wait counts; a THING waits for its DOOR.
    private static void carriedFromMinute0() {
        carried("t0 1 1 1;d60 61 1 1;", 61, 0);
        carried("t0 1 1 3;t0 1 1 4;d0 3 1 1;d10 20 1 1;", 14, 0, 1);
        carried("t0 1 1 4;t0 1 1 3;d0 3 1 1;d10 20 1 1;", 14, 1, 0);
        carried("t0 1 1 1;d30 40 1 1;d20 30 1 1;d25 60 1 1;", 21, 0);
    }

    // "UNTIL .. (99 at most)"
    private static void carriedUntilMinute99() {
        String four = "t0 1 1 9;".repeat(4);
        carried(four + "t0 1 1 2;t0 1 1 1;d60 99 1 1;", 99, 0, 1, 2, 3, 4, 5);
        carried(four + "t0 1 1 2;t0 1 1 2;d60 99 1 1;", NONE, NONE, NONE);
        carried("t0 1 1 9;".repeat(6) + "d0 99 1 1;", 54, 0, 1, 2, 3, 4, 5);
        carried("t0 1 1 9;".repeat(6) + "d45 99 1 1;", 99, 0, 1, 2, 3, 4, 5);
        carried("t0 1 1 9;".repeat(6) + "d46 99 1 1;", NONE, NONE);
    }

    // "the k-th that is carried in the first such order (the lowest THING first ..)"
    private static void carriedInTheFirstOrder() {
        // The third is the one for the DOOR that closes first.
        carried("t0 1 1 2;t0 1 1 2;t0 1 9 3;d0 3 1 9;d1 20 1 1;", 7, 2, 0, 1);
        // The first would do at any time; the lowest that is no hindrance goes first.
        carried("t0 1 1 2;t0 1 9 3;t0 1 1 2;d0 20 1 1;d4 7 1 9;", 7, 0, 2, 1);
        // Into the 5 minutes ahead of 5 go the 2 and the 3: the 4 would leave one of them empty.
        carried("t0 1 1 4;t0 1 1 3;t0 1 1 2;d0 5 1 1;d5 20 1 1;", 9, 1, 2, 0);
        // As soon by either order, though there is a wait: the lowest first.
        carried("t0 1 1 1;t0 1 1 2;d10 20 1 1;", 13, 0, 1);
        carried("t0 1 1 2;t0 1 1 1;d10 20 1 1;", 13, 0, 1);
        // The last one ends at 5 anyway: the second and the third go ahead of it in their order.
        carried("t0 1 9 2;t0 1 1 1;t0 1 1 1;d0 5 1 1;d3 5 1 9;", 5, 1, 2, 0);
    }

    // The same, asked again behind a change: nothing of the former answer is left.
    private static void carriedAskedAgain() {
        // At SCALE 1 the second goes by the last DOOR alone; at 2 by the first, too, if it goes ahead of the other.
        TwoScales x = told("t0 1 5 3;t0 1 18 4;d0 4 1 9;d2 20 1 5;d30 40 1 50;");
        for (int i = 0; i < 3; i++) {
            due("minutes", x.carried(-1), 34);
            due("the first", x.carried(0), 0);
            due("the second", x.carried(1), 1);
            x.rescales(1, 1, 2);
            due("minutes", x.carried(-1), 7);
            due("the first", x.carried(0), 1);
            due("the second", x.carried(1), 0);
            x.rescales(1, 1, 1);
        }
    }

    // "(.. -5: not so many)"; "BAD."
    private static void carriedNotSoMany() {
        TwoScales x = told(CHAIR.repeat(6) + "d0 9 1 1;");
        due("the last of six", x.carried(5), 5);
        for (int k : new int[] {6, 7, 31, 32, 64, 1000, MAX}) {
            due("carried(" + k + ")", x.carried(k), NOT_SO_MANY);
        }
        for (int k : new int[] {-2, -3, -5, -9, -1000000, MIN}) {
            due("carried(" + k + ")", x.carried(k), BAD);
            due("of no THINGS carried(" + k + ")", new TwoScales().carried(k), BAD);
        }
        due("of no THINGS", new TwoScales().carried(MAX), NOT_SO_MANY);
    }

    // "NONE: not all can be (whatever k is). BAD."
    private static void carriedNoneWhateverKIs() {
        TwoScales x = told(CHAIR + "t0 1 2 1;d0 9 1 1;");
        for (int k : new int[] {-1, 0, 1, 2, 6, 7, MAX}) {
            due("carried(" + k + ")", x.carried(k), NONE);
        }
        for (int k : new int[] {-2, MIN}) {
            due("BAD ahead of NONE: carried(" + k + ")", x.carried(k), BAD);
        }
    }

    private static void mean(TwoScales x, long upper, long lower) {
        due("mean: upper", x.mean(0), upper);
        due("mean: lower", x.mean(1), lower);
    }

    // "(nobody: 0 by 1)"
    private static void meanOfNobody() {
        mean(new TwoScales(), 0, 1);
        mean(told(CHAIR + "d0 1 1 1;"), 0, 1);
        TwoScales x = told("p7 9;p5 3;");
        x.house();
        mean(x, 0, 1);
        for (int what : new int[] {MIN, -1, 2, MAX}) {
            due("mean(" + what + ")", x.mean(what), BAD);
        }
    }

    // "MEAN of how tall all are here, as a fraction in lowest terms"
    private static void meanInLowestTerms() {
        mean(told("p48 1;"), 1, 48);
        mean(told("p1 99;"), 99, 1);
        mean(told("p48 96;"), 2, 1);
        mean(told("p48 99;p48 99;p48 99;p48 99;p48 99;"), 33, 16);
        mean(told("p48 1;p48 1;p48 1;p48 1;p48 1;"), 1, 48);
        mean(told("p1 3;p1 5;"), 4, 1);
        mean(told("p2 1;p3 1;p6 1;"), 1, 3);
        mean(told("p47 1;p46 1;"), 93, 4324);
        // 47 * 43 * 41 * 37 * 29 is 88909853; the sum of what remains without one of them, by 5 people.
        mean(told("p47 1;p43 1;p41 1;p37 1;p29 1;"),
                1891699L + 2067671L + 2168533L + 2402969L + 3065857L, 444549265L);
        TwoScales x = told("p1 3;p2 3;");
        mean(x, 9, 4);
        x.rescales(0, 1, 1);
        mean(x, 3, 1);
    }

    // "TURNS ..; NONE (no CHAIRS, nobody)"
    private static void turnsOfNoChairsOrNobody() {
        due("nothing and nobody", new TwoScales().turnsOfAll(), NONE);
        due("no CHAIRS", told(PERSON).turnsOfAll(), NONE);
        due("nobody", told(CHAIR).turnsOfAll(), NONE);
        due("beds and gates are no CHAIRS", told(BED.repeat(3) + GATE.repeat(3) + PERSON).turnsOfAll(), NONE);
    }

    // "(each one HOUR, whether it FITS or not; no CHAIR is empty in any, but where there are more than PEOPLE), the fewest"
    private static void turnsWhetherItFitsOrNot() {
        int[][] hours = {{1, 2, 3, 4, 5}, {1, 1, 3, 2, 5}, {1, 1, 1, 4, 5}, {1, 1, 1, 1, 5}, {1, 1, 1, 1, 1}, {1, 1, 1, 1, 1}};
        for (int chairs = 1; chairs <= 6; chairs++) {
            for (int people = 1; people <= 5; people++) {
                int want = hours[chairs - 1][people - 1];
                String some = CHAIR.repeat(chairs);
                due(chairs + " for " + people + ", all FIT", told(ANY + some + PERSON.repeat(people)).turnsOfAll(), want);
                due(chairs + " for " + people + ", none FITS", told("k0 0 0;" + some + PERSON.repeat(people)).turnsOfAll(), want);
            }
        }
        TwoScales x = told(ANY + CHAIR.repeat(2) + BED + PERSON.repeat(4));
        x.lays(0, 0);
        due("whatever is LAID", x.turnsOfAll(), 2);
    }

    // "SHARE of a loaf by how tall they are here: what comes to a PERSON of n .. crumbs (cut)"
    private static void sharesAreCut() {
        TwoScales x = told("p1 1;p2 1;");
        int[] two = {0, 1, 2, 2, 3, 4, 4, 5, 6};
        int[] one = {0, 0, 1, 1, 1, 2, 2, 2, 3};
        for (int n = 1; n <= 9; n++) {
            due("two thirds of " + n, x.share(0, n), two[n - 1]);
            due("a third of " + n, x.share(1, n), one[n - 1]);
        }
        due("two thirds of 998", x.share(0, 998), 665);
        due("two thirds of 999", x.share(0, 999), 666);
        // Just a whole number, though by 7ths and 41ths: not cut below it.
        x = told("p7 1;p7 2;");
        due("a third", x.share(0, 999), 333);
        due("two thirds", x.share(1, 999), 666);
        x = told("p41 3;p41 3;p41 3;");
        due("a third of three", x.share(2, 3), 1);
        due("a third of two", x.share(2, 2), 0);
        // By the SCALE now.
        x = told("p1 9;p1 9;");
        due("a half", x.share(0, 999), 499);
        x.rescales(0, 0, 2);
        due("a third", x.share(0, 999), 333);
        due("two thirds", x.share(1, 999), 666);
    }

    // "n (1 .. 999) crumbs"; "BAD."
    private static void sharesOfCrumbs() {
        TwoScales x = told("p48 99;");
        due("all of one crumb", x.share(0, 1), 1);
        due("all of 999", x.share(0, 999), 999);
        due("all of it, 1 tall", told("p1 1;").share(0, 7), 7);
        for (int n : new int[] {MIN, -1, 0, 1000, MAX}) {
            due("share(0, " + n + ")", x.share(0, n), BAD);
        }
        for (int p : new int[] {MIN, -1, 1, 5, MAX}) {
            due("share(" + p + ", 1)", x.share(p, 1), BAD);
        }
        due("nobody", told(CHAIR).share(0, 1), BAD);
        // 99 tall and 1 by 48 four times: 4752 by 4756, and 1 by 4756.
        x = told("p48 1;p48 1;p48 1;p48 1;p1 99;");
        due("of the tall one", x.share(4, 999), 998);
        due("of a small one", x.share(0, 999), 0);
    }

    private static void odds(TwoScales x, int p, int k, int upper, int lower) {
        due("odds(" + p + ", " + k + ", 0)", x.odds(p, k, 0), upper);
        due("odds(" + p + ", " + k + ", 1)", x.odds(p, k, 1), lower);
    }

    // "that of the USELESS ones k at most are seen: a fraction"
    private static void oddsOfUselessOnes() {
        TwoScales x = told(CHAIR.repeat(6));
        int[][] half = {{1, 64}, {7, 64}, {11, 32}, {21, 32}, {57, 64}, {63, 64}, {1, 1}};
        for (int k = 0; k <= 6; k++) {
            odds(x, 5, k, half[k][0], half[k][1]);
        }
        odds(x, 1, 0, 531441, 1000000);
        odds(x, 9, 0, 1, 1000000);
        odds(x, 2, 0, 4096, 15625);
        odds(x, 9, 5, 468559, 1000000);
        // Those that FIT somebody don't count; by the SCALES now.
        x = told("t0 1 5 1;t0 1 9 1;t0 1 6 1;p1 20;");
        odds(x, 3, 0, 7, 10);
        odds(x, 3, 1, 1, 1);
        x.rescales(0, 0, 48);
        odds(x, 3, 0, 343, 1000);
        x.rescales(0, 0, 1);
        x.rescales(1, 1, 2);
        odds(x, 3, 0, 1, 1);
    }

    // "p (0 .. 10), k (0 .. 6)": the edges, by how many USELESS ones there are.
    private static void oddsAtTheEdges() {
        for (int useless = 0; useless <= 6; useless++) {
            TwoScales x = told(CHAIR.repeat(useless));
            for (int k = 0; k <= 6; k++) {
                odds(x, 0, k, 1, 1);
                odds(x, 10, k, k < useless ? 0 : 1, 1);
            }
            odds(x, 5, useless, 1, 1);
            if (useless > 0) {
                odds(x, 5, useless - 1, (1 << useless) - 1, 1 << useless);
            }
        }
    }

    // The same: "BAD."
    private static void oddsRefused() {
        TwoScales x = told(CHAIR);
        for (int bad : new int[] {MIN, -1, 11, MAX}) {
            due("odds(" + bad + ", 0, 0)", x.odds(bad, 0, 0), BAD);
        }
        for (int bad : new int[] {MIN, -1, 7, MAX}) {
            due("odds(5, " + bad + ", 0)", x.odds(5, bad, 0), BAD);
        }
        for (int bad : new int[] {MIN, -1, 2, MAX}) {
            due("odds(5, 0, " + bad + ")", x.odds(5, 0, bad), BAD);
        }
        due("of no THINGS", new TwoScales().odds(10, 0, 2), BAD);
    }
}
