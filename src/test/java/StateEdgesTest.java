import java.util.ArrayDeque;
import java.util.Deque;

/**
 * Promises 1, 5 to 13 and 27 to 31: each sentence of the document about what is told, done, undone,
 * rated and kept that names an edge has a method of its own here; the sentence stands above it.
 */
public final class StateEdgesTest {
    private static final Check CHECK = new Check("StateEdgesTest");
    private static final int BAD = TwoScales.BAD, STATE = TwoScales.STATE, NONE = TwoScales.NONE, NO = TwoScales.NO;
    private static final int MIN = Integer.MIN_VALUE, MAX = Integer.MAX_VALUE;

    /** A chair, a bed and a gate, each for either of two people; a second chair. */
    private static final String FULL_HOUSE = "t0 1 5 1;t1 1 20 2;t2 1 30 3;t0 1 6 4;p1 20;p2 40;";

    private StateEdgesTest() {
    }

    private static void due(String call, long got, long want) {
        CHECK.due(call, got, want);
    }

    private static TwoScales told(String text) {
        return Check.told(text);
    }

    public static void main(String[] args) {
        asToldAtFirst();
        whatCanBeAsked();
        fitsAtLowAndAtHigh();
        fitsByFractions();
        lawsOfNothingAndOfAll();
        fitsAsBits();
        uselessAsBits();
        bareIfThereIsNothingOfIt();
        tallerIsLessThanAlone();
        laysWhatDoesNotFit();
        laysToWhoHasOne();
        laysWhatIsSomebodys();
        laysUpToThree();
        takesWhatIsNobodys();
        rescalesToTheSame();
        rescalesAtTheEdges();
        rescaledAPersonLosesWhatDoesNotFit();
        rescaledAThingIsLost();
        whatWasLostDoesNotComeBack();
        undoOfEach();
        tenAreKnown();
        refusedOnesAreNotKnown();
        otherCallsAreNotKnown();
        undoGoesRoundAndRound();
        ratesBelowZero();
        rateBodiesAreAskedOnce();
        rateRefused();
        imagesAreTwo();
        imagesKeepNow();
        imagesKeepNothingElse();
        nothingIsUndoneBehindBack();
        refusedBackLosesNothing();
        traceGoesOn();
        CHECK.end();
    }

    // "As told; no THINGS, nobody."; "at first 4, 6; 20, 24; 21, 40"
    private static void asToldAtFirst() {
        TwoScales x = new TwoScales();
        int[] laws = {4, 6, 20, 24, 21, 40};
        for (int i = 0; i < 6; i++) {
            due("law " + i, x.use(i / 2, i % 2), laws[i]);
        }
        due("no THINGS", x.count(0), 0);
        due("nobody", x.count(1), 0);
        due("no DOORS", x.count(2), 0);
        due("nothing TRIED", x.count(3), 0);
        due("no letters", x.count(4), 0);
        due("THE TRACE, 0 at first", x.trace(), 0);
        due("none may be UNDONE", x.now(5), 0);
        due("no IMAGE 0", x.back(0), STATE);
        due("no IMAGE 1", x.back(1), STATE);
        due("an IMAGE of nothing", x.keep(1), 0);
        due("back to it", x.back(1), 0);
    }

    // "Of a ..: 0 .., 1 .. BAD": one below, one above, and who is not there.
    private static void whatCanBeAsked() {
        TwoScales x = told(FULL_HOUSE + "d0 1 1 1;d0 2 1 1;");
        int[] far = {MIN, -2, -1, 6, 7, 100, MAX};
        for (int i : far) {
            due("use(" + i + ", 0)", x.use(i, 0), BAD);
            due("use(0, " + i + ")", x.use(0, i), BAD);
            due("thing(" + i + ", 0)", x.thing(i, 0), BAD);
            due("thing(0, " + i + ")", x.thing(0, i), BAD);
            due("person(" + i + ", 0)", x.person(i, 0), BAD);
            due("person(0, " + i + ")", x.person(0, i), BAD);
            due("door(" + i + ", 0)", x.door(i, 0), BAD);
            due("door(0, " + i + ")", x.door(0, i), BAD);
            due("now(" + i + ")", x.now(i), BAD);
            due("count(" + i + ")", x.count(i), BAD);
        }
        due("a fourth KIND OF USE", x.use(3, 0), BAD);
        due("of a KIND OF USE a third", x.use(2, 2), BAD);
        due("the last THING", x.thing(3, 3), 4);
        due("a THING more", x.thing(4, 0), BAD);
        due("of a THING a last", x.thing(3, 5), 3);
        due("of a THING one more", x.thing(3, 6), BAD);
        due("the last PERSON", x.person(1, 1), 40);
        due("a PERSON more", x.person(2, 0), BAD);
        due("of a PERSON one more", x.person(1, 4), BAD);
        due("the last DOOR", x.door(1, 1), 2);
        due("a DOOR more", x.door(2, 0), BAD);
        due("of a DOOR one more", x.door(1, 4), BAD);
        due("the last count", x.count(4), 0);
        due("a count more", x.count(5), BAD);
        due("the last of now", x.now(5), 0);
    }

    // "a THING of one FITS somebody, if it is LOW twentieths of how tall he is here at least, HIGH of them at most"
    private static void fitsAtLowAndAtHigh() {
        // For who is 20 tall a twentieth is 1.
        int[][] laws = {{4, 6}, {20, 24}, {21, 40}};
        for (int u = 0; u < 3; u++) {
            for (int big = 1; big <= 60; big++) {
                TwoScales x = told("t" + u + " 1 " + big + " 1;p1 20;");
                int fits = big >= laws[u][0] && big <= laws[u][1] ? 1 : 0;
                due("a THING of " + u + ", " + big + " big", x.thing(0, 5), fits);
                due("lays it", x.lays(0, 0), fits == 1 ? 1 : STATE);
            }
        }
        TwoScales x = told("k0 7 9;t0 1 6 1;t0 1 7 1;t0 1 9 1;t0 1 10 1;p1 20;");
        due("below a LOW that was told", x.thing(0, 5), 0);
        due("at a LOW that was told", x.thing(1, 5), 1);
        due("at a HIGH that was told", x.thing(2, 5), 1);
        due("above a HIGH that was told", x.thing(3, 5), 0);
    }

    // "Something of SIZE z .. at SCALE s .. is z by s big here": not cut, whichever way.
    private static void fitsByFractions() {
        // 20 tall: 4 big and 47 by 12, 49 by 12; 6 big and 71 by 12, 73 by 12.
        TwoScales x = told("t0 12 47 1;t0 12 48 1;t0 12 49 1;t0 12 71 1;t0 12 72 1;t0 12 73 1;p1 20;");
        int[] fits = {0, 1, 1, 1, 1, 0};
        for (int t = 0; t < 6; t++) {
            due("a chair of 12ths " + t, x.thing(t, 5), fits[t]);
        }
        // A bed as big as he is tall FITS (LOW 20); 46 by 47 is a little less than 47 by 48, 48 by 48 a little more.
        x = told("t1 48 47 1;t1 47 46 1;t1 48 48 1;p48 47;");
        due("as big as he is", x.thing(0, 5), 1);
        due("a 2256th less", x.thing(1, 5), 0);
        due("a 48th more", x.thing(2, 5), 1);
        // The greatest numbers there are: 99 by 1 for 33 by 1, and for 99 by 48.
        x = told("k0 60 60;t0 1 99 1;t0 48 99 1;p1 33;p48 99;p48 33;p1 99;");
        due("three times as big", x.thing(0, 5), 1);
        due("three times as big, both at 48", x.thing(1, 5), 4);
    }

    // "(0 .. 60 each, HIGH no less ..)": 0 and 0, 0 and 60, 60 and 60.
    private static void lawsOfNothingAndOfAll() {
        TwoScales x = told("k0 0 0;t0 48 1 1;p1 99;");
        due("nothing is 0 twentieths, though it is small", x.thing(0, 5), 0);
        due("so it is USELESS", x.now(0), 1);
        x = told("k0 0 60;t0 48 1 1;t0 1 3 1;t0 1 4 1;p1 1;");
        due("as small as can be", x.thing(0, 5), 1);
        due("60 twentieths", x.thing(1, 5), 1);
        due("80 twentieths", x.thing(2, 5), 0);
        x = told("k0 60 60;t0 1 2 1;t0 1 3 1;t0 1 4 1;p1 1;");
        due("USELESS but the one of 60 twentieths", x.now(0), 5);
    }

    // "FITS: PEOPLE (bits) whom a THING FITS."
    private static void fitsAsBits() {
        TwoScales x = told("t0 1 5 1;p1 20;p1 1;p1 20;p1 99;p1 20;");
        due("the first, the third and the fifth", x.thing(0, 5), 21);
        x.lays(0, 4);
        due("whosever it is", x.thing(0, 5), 21);
        x.rescales(0, 4, 2);
        due("by the SCALES now", x.thing(0, 5), 5);
        due("nobody's then", x.thing(0, 4), NONE);
        due("nobody is there", told("t0 1 5 1;").thing(0, 5), 0);
    }

    // "USELESS: THINGS (bits) that FIT nobody."
    private static void uselessAsBits() {
        TwoScales x = told("t0 1 5 1;t0 1 9 1;t1 1 20 1;t1 1 19 1;t2 1 20 1;t2 1 41 1;p1 20;");
        due("the second, the fourth, the fifth and the sixth", x.now(0), 58);
        due("all six, for nobody is there", told("t0 1 1 1;".repeat(6)).now(0), 63);
        due("none of none", told("p1 1;").now(0), 0);
        x.rescales(0, 0, 48);
        due("all for who is small now", x.now(0), 63);
    }

    // "BARE of a KIND OF USE: PEOPLE (bits) whom nothing of it FITS (all, if there is nothing of it)."
    private static void bareIfThereIsNothingOfIt() {
        TwoScales x = told("t0 1 5 1;t0 1 20 1;p1 20;p1 99;p1 26;p1 67;p1 25;");
        due("of chairs the third", x.now(1), 4);
        due("of beds all", x.now(2), 31);
        due("of gates all", x.now(3), 31);
        x.lays(0, 0);
        due("of chairs, though one is LAID to another", x.now(1), 4);
        x = told("t0 1 5 1;t1 1 5 1;t2 1 5 1;");
        for (int what = 1; what <= 3; what++) {
            due("nobody is there, nobody is BARE " + what, x.now(what), 0);
            due("nothing and nobody " + what, new TwoScales().now(what), 0);
        }
        // Each KIND OF USE by itself: a chair is no bed.
        x = told("k0 0 60;k1 0 60;k2 0 60;t1 1 1 1;p1 1;p1 2;");
        due("of chairs both", x.now(1), 3);
        due("of beds nobody", x.now(2), 0);
        due("of gates both", x.now(3), 3);
    }

    // "TALLER: how many PEOPLE are smaller here than one."
    private static void tallerIsLessThanAlone() {
        TwoScales x = told("p1 2;p12 24;p48 96;p24 48;p48 95;");
        for (int p = 0; p < 4; p++) {
            due("as tall as three others, taller than one: " + p, x.person(p, 3), 1);
        }
        due("the smallest", x.person(4, 3), 0);
        // 46 by 47 is 2162 by 2209, 47 by 48 is 2209 by 2256: by fractions, not cut.
        x = told("p47 46;p48 47;p48 1;p1 99;");
        due("46 by 47", x.person(0, 3), 1);
        due("47 by 48", x.person(1, 3), 2);
        due("1 by 48", x.person(2, 3), 0);
        due("99 by 1", x.person(3, 3), 3);
        due("alone", told("p1 1;").person(0, 3), 0);
        due("taller than four", told("p1 9;p1 1;p1 2;p1 3;p1 4;").person(0, 3), 4);
        x.rescales(0, 3, 48);
        due("by the SCALE now: 99 by 48 is above 2 still", x.person(3, 3), 3);
        x.rescales(0, 2, 1);
        due("as 1 by 1 is above 47 by 48", x.person(2, 3), 2);
    }

    // "STATE: it does not FIT .."
    private static void laysWhatDoesNotFit() {
        TwoScales x = told("t0 1 3 1;t0 1 4 1;t0 1 6 1;t0 1 7 1;p1 20;");
        due("too small", x.lays(0, 0), STATE);
        due("too big", x.lays(3, 0), STATE);
        due("nothing changed", x.now(4), 0);
        due("nothing is known of it", x.now(5), 0);
        due("just big enough", x.lays(1, 0), 1);
        due("taken", x.takes(1), 0);
        due("just small enough", x.lays(2, 0), 1);
        due("his", x.now(4), 4);
    }

    // ".. who has none of that KIND OF USE yet"; "STATE: .. he has one"
    private static void laysToWhoHasOne() {
        TwoScales x = told(FULL_HOUSE);
        due("a chair", x.lays(0, 0), 1);
        due("another chair", x.lays(3, 0), STATE);
        due("it is nobody's still", x.thing(3, 4), NONE);
        due("a bed", x.lays(1, 0), 2);
        due("the chair for who has none", x.lays(3, 1), 1);
        due("taken from the first", x.takes(0), 0);
        due("the second has one", x.lays(0, 1), STATE);
        due("the first has none any more", x.lays(0, 0), 2);
    }

    // "it is nobody else's"; "STATE: .. it is somebody's"
    private static void laysWhatIsSomebodys() {
        TwoScales x = told("t0 1 5 1;p1 20;p1 20;");
        due("LAID", x.lays(0, 1), 1);
        due("another's", x.lays(0, 0), STATE);
        due("his own", x.lays(0, 1), STATE);
        due("it is his still", x.thing(0, 4), 1);
        due("one is known", x.now(5), 1);
        due("taken", x.takes(0), 1);
        due("nobody's, so LAID", x.lays(0, 0), 1);
    }

    // "LAID: how many he has."
    private static void laysUpToThree() {
        TwoScales x = told(FULL_HOUSE);
        due("one", x.lays(2, 1), 1);
        due("two", x.lays(1, 1), 2);
        due("of another PERSON one", x.lays(3, 0), 1);
        due("three", x.lays(0, 1), 3);
        due("THINGS he has", x.person(1, 2), 7);
        due("THINGS the other has", x.person(0, 2), 8);
        due("THINGS that are somebody's", x.now(4), 15);
        due("BAD ahead of STATE: no such PERSON", x.lays(0, 2), BAD);
        due("BAD ahead of STATE: no such THING", x.lays(4, 1), BAD);
        for (int i : new int[] {MIN, -1, 6, MAX}) {
            due("lays(" + i + ", 0)", x.lays(i, 0), BAD);
            due("lays(0, " + i + ")", x.lays(0, i), BAD);
        }
    }

    // "TAKEN: whose it was. BAD; STATE: it is nobody's."
    private static void takesWhatIsNobodys() {
        TwoScales x = told(FULL_HOUSE);
        due("never LAID", x.takes(0), STATE);
        x.lays(0, 1);
        due("LAID: whose it was", x.takes(0), 1);
        due("taken already", x.takes(0), STATE);
        due("two are known", x.now(5), 2);
        x.lays(0, 0);
        due("whose it was: 0", x.takes(0), 0);
        x.lays(0, 0);
        x.rescales(0, 0, 48);
        due("nobody's by a SCALE", x.takes(0), STATE);
        due("no such THING", x.takes(4), BAD);
        for (int i : new int[] {MIN, -1, 6, MAX}) {
            due("takes(" + i + ")", x.takes(i), BAD);
        }
    }

    // "RESCALED: .. is of another SCALE (or the same) from now on"
    private static void rescalesToTheSame() {
        TwoScales x = told(FULL_HOUSE);
        x.lays(0, 1);
        due("a PERSON, the same", x.rescales(0, 1, 2), 2);
        due("a THING, the same", x.rescales(1, 0, 1), 1);
        due("his still", x.thing(0, 4), 1);
        due("both are known", x.now(5), 3);
        due("undone", x.undo(), 2);
        due("undone", x.undo(), 1);
        due("his still", x.thing(0, 4), 1);
    }

    // "a PERSON (isThing = 0), a THING (1): its SCALE till then. BAD."; SCALES 1 .. 48
    private static void rescalesAtTheEdges() {
        TwoScales x = told("t0 7 5 1;t0 8 5 1;p9 20;");
        due("a THING to 1", x.rescales(1, 1, 1), 8);
        due("a THING to 48", x.rescales(1, 1, 48), 1);
        due("its SCALE", x.thing(1, 1), 48);
        due("the other's", x.thing(0, 1), 7);
        due("a PERSON to 48", x.rescales(0, 0, 48), 9);
        due("a PERSON to 1", x.rescales(0, 0, 1), 48);
        due("his SCALE", x.person(0, 0), 1);
        for (int i : new int[] {MIN, -48, -1, 0, 49, 99, MAX}) {
            due("a THING to " + i, x.rescales(1, 0, i), BAD);
            due("a PERSON to " + i, x.rescales(0, 0, i), BAD);
        }
        for (int i : new int[] {MIN, -1, 2, MAX}) {
            due("isThing " + i, x.rescales(i, 0, 1), BAD);
            due("THING " + i, x.rescales(1, i, 1), BAD);
            due("PERSON " + i, x.rescales(0, i, 1), BAD);
        }
        due("there is a THING 1, no PERSON 1", x.rescales(0, 1, 1), BAD);
        due("there is one", x.rescales(1, 1, 2), 48);
        due("five are known", x.now(5), 5);
        x = told("t0 1 1 1;p1 1;p2 2;");
        due("there is a PERSON 1, no THING 1", x.rescales(1, 1, 1), BAD);
        due("there is one", x.rescales(0, 1, 1), 2);
    }

    // "(what does not FIT any more is nobody's then)": of a PERSON, at just LOW and just HIGH it FITS still.
    private static void rescaledAPersonLosesWhatDoesNotFit() {
        // The chair is 4 big: LOW of 20, HIGH of 13.3 tall. The gate is 21 big: LOW of 20 tall, and 50 at most.
        TwoScales x = told("k2 21 50;t0 2 8 1;t2 1 21 1;t0 1 5 1;p2 40;p1 20;");
        x.lays(0, 0);
        x.lays(1, 0);
        x.lays(2, 1);
        due("smaller: 13.3 tall", x.rescales(0, 0, 3), 2);
        due("the chair is at HIGH, the gate at 31.5 twentieths", x.person(0, 2), 3);
        due("smaller still: 10 tall", x.rescales(0, 0, 4), 3);
        due("the chair is nobody's, the gate his at 42 twentieths", x.person(0, 2), 2);
        due("much smaller: 8 tall, the gate at 52.5", x.rescales(0, 0, 5), 4);
        due("the gate is nobody's", x.person(0, 2), 0);
        due("the other's chair is his still", x.thing(2, 4), 1);
        x.undo();
        x.undo();
        x.undo();
        due("all is his again, 20 tall", x.person(0, 2), 3);
        due("taller: 40", x.rescales(0, 0, 1), 2);
        due("below LOW, both", x.person(0, 2), 0);
        due("the other's", x.now(4), 4);
    }

    // The same of a THING.
    private static void rescaledAThingIsLost() {
        TwoScales x = told("t0 2 12 1;t1 1 20 1;p1 20;");
        x.lays(0, 0);
        x.lays(1, 0);
        due("from HIGH to LOW", x.rescales(1, 0, 3), 2);
        due("both are his", x.person(0, 2), 3);
        due("below LOW", x.rescales(1, 0, 4), 3);
        due("the bed alone is his", x.person(0, 2), 2);
        x.undo();
        due("both are his", x.person(0, 2), 3);
        due("above HIGH", x.rescales(1, 0, 1), 3);
        due("the bed alone is his", x.person(0, 2), 2);
        due("it has its SCALE", x.thing(0, 1), 1);
    }

    // The same: "nobody's then", also when it FITS again.
    private static void whatWasLostDoesNotComeBack() {
        TwoScales x = told("t0 1 5 1;p1 20;");
        x.lays(0, 0);
        x.rescales(0, 0, 2);
        due("lost", x.thing(0, 4), NONE);
        x.rescales(0, 0, 1);
        due("it FITS again", x.thing(0, 5), 1);
        due("it is nobody's still", x.thing(0, 4), NONE);
        due("it can be LAID", x.lays(0, 0), 1);
    }

    // "UNDONE: the latest lays(), takes(), rescales() that was not refused"; "how many more may be. STATE: none."
    private static void undoOfEach() {
        TwoScales x = told(FULL_HOUSE);
        due("none", x.undo(), STATE);
        x.lays(0, 1);
        due("lays() undone", x.undo(), 0);
        due("nobody's", x.thing(0, 4), NONE);
        due("none", x.undo(), STATE);
        x.lays(0, 1);
        x.takes(0);
        due("takes() undone", x.undo(), 1);
        due("his", x.thing(0, 4), 1);
        x.lays(1, 1);
        x.lays(2, 1);
        x.rescales(0, 1, 48);
        due("lost, all of it", x.person(1, 2), 0);
        due("rescales() of a PERSON undone", x.undo(), 3);
        due("all of it is his again", x.person(1, 2), 7);
        due("his SCALE", x.person(1, 0), 2);
        x.rescales(1, 2, 48);
        due("lost", x.person(1, 2), 3);
        due("rescales() of a THING undone", x.undo(), 3);
        due("his again", x.person(1, 2), 7);
        due("its SCALE", x.thing(2, 1), 1);
        due("undone", x.undo(), 2);
        due("undone", x.undo(), 1);
        due("undone", x.undo(), 0);
        due("none is left", x.undo(), STATE);
        due("as at first", x.now(4), 0);
    }

    // "(10 are known, older ones are lost)"
    private static void tenAreKnown() {
        for (int done = 1; done <= 25; done++) {
            TwoScales x = told("p1 20;");
            for (int i = 1; i <= done; i++) {
                x.rescales(0, 0, 1 + i);
            }
            int known = Math.min(done, 10);
            due("known of " + done, x.now(5), known);
            for (int left = known - 1; left >= 0; left--) {
                due("UNDONE of " + done, x.undo(), left);
                due("the SCALE then", x.person(0, 0), 1 + done - known + left);
            }
            due("older ones are lost", x.undo(), STATE);
            due("the SCALE stays", x.person(0, 0), 1 + done - known);
        }
    }

    // "the latest .. that was not refused": a refused one is not known, and pushes none out.
    private static void refusedOnesAreNotKnown() {
        TwoScales x = told("t0 1 5 1;t0 1 99 1;p1 20;p1 20;");
        for (int i = 1; i <= 10; i++) {
            x.rescales(1, 1, 1 + i);
        }
        due("refused", x.lays(1, 0), STATE);
        due("refused", x.lays(2, 0), BAD);
        due("refused", x.takes(0), STATE);
        due("refused", x.takes(-1), BAD);
        due("refused", x.rescales(1, 1, 49), BAD);
        due("refused", x.rescales(2, 0, 1), BAD);
        due("ten are known", x.now(5), 10);
        for (int left = 9; left >= 0; left--) {
            due("UNDONE", x.undo(), left);
            due("one by one", x.thing(1, 1), 1 + left);
        }
        due("refused", x.undo(), STATE);
        due("refused again", x.undo(), STATE);
        due("none is known", x.now(5), 0);
        due("one more", x.lays(0, 0), 1);
        due("is known", x.now(5), 1);
    }

    // "the latest lays(), takes(), rescales()": nothing else is UNDONE.
    private static void otherCallsAreNotKnown() {
        TwoScales x = told("t0 1 5 1;p1 20;");
        x.lays(0, 0);
        x.tries(0, 1);
        x.forget();
        x.tries(0, 0);
        x.keep(0);
        x.type('p');
        x.clear();
        x.type('x');
        x.house();
        x.rate(0, 0);
        due("one is known", x.now(5), 1);
        due("it is UNDONE", x.undo(), 0);
        due("nobody's", x.thing(0, 4), NONE);
        due("TRIED still", x.count(3), 1);
        due("a letter still", x.count(4), 1);
        due("the IMAGE still", x.back(0), 1);
        due("undo() is not UNDONE", x.undo(), STATE);
    }

    // "10 are known": over and over, with some UNDONE in between.
    private static void undoGoesRoundAndRound() {
        TwoScales x = told("p1 20;");
        Deque<Integer> known = new ArrayDeque<>();
        int scale = 1;
        for (int i = 0; i < 200; i++) {
            boolean undo = i % 7 > 4 || i % 31 > 22;
            if (undo && known.isEmpty()) {
                due("none in round " + i, x.undo(), STATE);
            } else if (undo) {
                scale = known.removeLast();
                due("UNDONE in round " + i, x.undo(), known.size());
            } else {
                known.addLast(scale);
                due("RESCALED in round " + i, x.rescales(0, 0, 1 + i % 48), scale);
                scale = 1 + i % 48;
            }
            if (known.size() > 10) {
                known.removeFirst();
            }
            due("known in round " + i, x.now(5), known.size());
            due("the SCALE in round " + i, x.person(0, 0), scale);
        }
    }

    // "THING its SIZE", "GLUED up less its MINUTES", "SOUP up, and its number": the least and the greatest.
    private static void ratesBelowZero() {
        TwoScales x = told("t0 1 1 9;t0 48 99 1;t0 48 10 9;t0 1 9 9;t0 1 1 1;t0 48 99 9;p1 20;");
        int[][] due = {
            {1, 2, -8, 4, -8, 1}, {99, 147, 98, 294, 99, 99}, {10, 58, 1, 116, 3, 10},
            {9, 10, 0, 20, 3, 9}, {1, 2, 0, 4, 4, 1}, {99, 147, 90, 294, 95, 99},
        };
        for (int t = 0; t < 6; t++) {
            for (int kind = 0; kind < 6; kind++) {
                due("rate(" + kind + ", " + t + ")", x.rate(kind, t), due[t][kind]);
            }
        }
        x = told("t0 1 5 1;p1 20;p1 20;p1 20;p1 20;p1 20;");
        due("REAL, and it FITS five", x.rate(5, 0), 10);
        x.rescales(0, 2, 9);
        due("REAL, and it FITS four", x.rate(5, 0), 9);
        x.rescales(1, 0, 48);
        due("REAL, and it FITS nobody", x.rate(5, 0), 5);
        due("TURNED, by the SCALE now", x.rate(1, 0), 53);
        due("CARVED, by the SCALE now", x.rate(3, 0), 106);
    }

    // "as often as rate() asks that body: each once"
    private static void rateBodiesAreAskedOnce() {
        long[] due = {1, 11, 101, 1011, 10101, 100001};
        for (int kind = 0; kind < 6; kind++) {
            TwoScales x = told("t0 2 9 1;t1 3 8 2;p1 20;");
            x.rate(kind, 0);
            due("THE TRACE behind kind " + kind, x.trace(), due[kind]);
            x.rate(kind, 1);
            due("THE TRACE behind kind " + kind + " again", x.trace(), 2 * due[kind]);
        }
    }

    // "RATE. NO: BAD."
    private static void rateRefused() {
        TwoScales x = told("t0 2 9 1;p1 20;");
        for (int i : new int[] {MIN, -1, 6, MAX}) {
            due("rate(" + i + ", 0)", x.rate(i, 0), NO);
        }
        for (int i : new int[] {MIN, -1, 1, 6, MAX}) {
            due("rate(0, " + i + ")", x.rate(0, i), NO);
            due("rate(5, " + i + ")", x.rate(5, i), NO);
        }
        due("nothing came to THE TRACE", x.trace(), 0);
        due("of no THINGS", new TwoScales().rate(0, 0), NO);
    }

    // "IMAGES 0, 1"; "BAD; STATE: none was kept."
    private static void imagesAreTwo() {
        TwoScales x = told("t0 1 5 1;p1 20;");
        for (int i : new int[] {MIN, -1, 2, MAX}) {
            due("keep(" + i + ")", x.keep(i), BAD);
            due("back(" + i + ")", x.back(i), BAD);
        }
        for (int i = 0; i < 2; i++) {
            x = told("t0 1 5 1;p1 20;");
            due("keep(" + i + ")", x.keep(i), 0);
            due("the other was not kept", x.back(1 - i), STATE);
            x.lays(0, 0);
            due("keep of the other", x.keep(1 - i), 1);
            due("back(" + i + ")", x.back(i), 0);
            due("nobody's", x.thing(0, 4), NONE);
            due("back of the other", x.back(1 - i), 1);
            due("his", x.thing(0, 4), 0);
            due("back once more", x.back(i), 0);
        }
    }

    // "keep NOW (whose THINGS are, all SCALES of THINGS and PEOPLE)"; "All of that becomes as an IMAGE has it"
    private static void imagesKeepNow() {
        TwoScales x = told("k0 0 60;k1 0 60;k2 0 60;t0 1 1 1;t1 2 2 1;t2 3 3 1;t0 4 4 1;t1 5 5 1;t2 6 6 1;"
                + "p1 11;p2 22;p3 33;p4 44;p5 55;");
        x.lays(0, 4);
        x.lays(5, 0);
        due("two are somebody's", x.keep(0), 2);
        for (int i = 0; i < 6; i++) {
            x.rescales(1, i, 7 + i);
        }
        for (int i = 0; i < 5; i++) {
            x.rescales(0, i, 1 + (i + 1) % 5);
        }
        x.takes(0);
        x.lays(1, 1);
        x.lays(0, 1);
        x.lays(2, 2);
        due("four are somebody's", x.keep(1), 4);
        due("back: two", x.back(0), 2);
        for (int i = 0; i < 6; i++) {
            due("SCALE of THING " + i, x.thing(i, 1), 1 + i);
            due("whose THING " + i, x.thing(i, 4), i == 0 ? 4 : i == 5 ? 0 : NONE);
        }
        for (int i = 0; i < 5; i++) {
            due("SCALE of PERSON " + i, x.person(i, 0), 1 + i);
        }
        due("back: four", x.back(1), 4);
        int[] owners = {1, 1, 2, NONE, NONE, 0};
        for (int i = 0; i < 6; i++) {
            due("SCALE of THING " + i, x.thing(i, 1), 7 + i);
            due("whose THING " + i, x.thing(i, 4), owners[i]);
        }
        for (int i = 0; i < 5; i++) {
            due("SCALE of PERSON " + i, x.person(i, 0), 1 + (i + 1) % 5);
        }
        // Kept again it is another; what is done afterwards does not reach it.
        x.takes(1);
        due("kept again", x.keep(0), 3);
        x.takes(2);
        x.rescales(0, 0, 48);
        due("back to that", x.back(0), 3);
        due("as it was kept", x.thing(2, 4), 2);
        due("as it was kept", x.person(0, 0), 2);
    }

    // "nothing else": what was TRIED, THE TEXT and THE TRACE are not kept.
    private static void imagesKeepNothingElse() {
        TwoScales x = told("t0 1 5 1;p1 20;");
        x.tries(0, 1);
        x.type('p');
        x.rate(0, 0);
        x.keep(0);
        x.tries(0, 0);
        x.type('1');
        x.rate(1, 0);
        due("back", x.back(0), 0);
        due("TRIED", x.count(3), 2);
        due("letters", x.count(4), 2);
        due("THE TRACE goes on", x.trace(), 12);
        x.forget();
        x.clear();
        x.back(0);
        due("nothing TRIED", x.count(3), 0);
        due("no letters", x.count(4), 0);
    }

    // "(nothing can be UNDONE behind back())"
    private static void nothingIsUndoneBehindBack() {
        TwoScales x = told("t0 1 5 1;p1 20;");
        x.lays(0, 0);
        x.keep(0);
        due("keep() loses nothing", x.now(5), 1);
        due("back to the very same", x.back(0), 1);
        due("none may be", x.now(5), 0);
        due("none", x.undo(), STATE);
        due("his still", x.thing(0, 4), 0);
        x.takes(0);
        due("what comes behind it may be", x.now(5), 1);
        due("UNDONE", x.undo(), 0);
        due("his again", x.thing(0, 4), 0);
        due("no more", x.undo(), STATE);
        for (int i = 0; i < 13; i++) {
            x.rescales(0, 0, 2 + i);
        }
        x.back(0);
        due("none of ten", x.undo(), STATE);
        for (int i = 0; i < 12; i++) {
            x.rescales(0, 0, 2 + i);
        }
        due("ten again", x.now(5), 10);
        for (int left = 9; left >= 0; left--) {
            due("UNDONE", x.undo(), left);
            due("the SCALE", x.person(0, 0), 3 + left);
        }
    }

    // "Refused, and nothing changes": by a back() that is refused nothing is lost.
    private static void refusedBackLosesNothing() {
        TwoScales x = told("t0 1 5 1;p1 20;");
        x.lays(0, 0);
        due("none was kept", x.back(1), STATE);
        due("no such IMAGE", x.back(2), BAD);
        due("one may be UNDONE", x.now(5), 1);
        due("his still", x.thing(0, 4), 0);
        due("UNDONE", x.undo(), 0);
    }

    // "THE TRACE goes on, as behind undo(), back()"
    private static void traceGoesOn() {
        TwoScales x = told("t0 1 5 1;p1 20;");
        x.keep(0);
        x.rate(4, 0);
        x.lays(0, 0);
        x.rate(5, 0);
        x.undo();
        due("behind undo()", x.trace(), 110102);
        x.back(0);
        due("behind back()", x.trace(), 110102);
        x.clear();
        x.forget();
        x.house();
        due("behind house()", x.trace(), 110102);
        due("no THINGS any more", x.rate(0, 0), NO);
        due("nothing came to it", x.trace(), 110102);
    }
}
