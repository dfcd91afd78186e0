/** Every promise of the document by its number, with answers worked out by hand. */
public final class PromisesTest {
    private static final Check CHECK = new Check("PromisesTest");
    private static final int BAD = TwoScales.BAD, STATE = TwoScales.STATE, FULL = TwoScales.FULL;
    private static final int NONE = TwoScales.NONE, NO = TwoScales.NO;
    private static final int MIN = Integer.MIN_VALUE, MAX = Integer.MAX_VALUE;

    /** Laws by which nearly anything fits: up to three times as big as somebody is tall. */
    private static final String ANY = "k0 0 60;k1 0 60;k2 0 60;";

    private PromisesTest() {
    }

    private static void due(String call, long got, long want) {
        CHECK.due(call, got, want);
    }

    private static TwoScales told(String text) {
        return Check.told(text);
    }

    private static void faultOf(String text, int place) {
        due("1 house() of '" + text + "'", Check.houseOf(text), -10 - place);
    }

    private static void itemsOf(String text, int items) {
        due("1 house() of '" + text + "'", Check.houseOf(text), items);
    }

    public static void main(String[] args) {
        newObject();
        type();
        clear();
        houseTellsAnew();
        houseRefusesNothingRight();
        houseFaultsOfGrammar();
        houseFaultsOfNumbers();
        houseFaultsOfTooMany();
        use();
        thing();
        person();
        door();
        now();
        lays();
        takes();
        rescales();
        undo();
        housed();
        laying();
        tries();
        forget();
        mayBe();
        next();
        bestScale();
        oneMore();
        carried();
        carriedOrders();
        mean();
        turnsOfAll();
        share();
        odds();
        rate();
        keepAndBack();
        count();
        trace();
        CHECK.end();
    }

    private static void newObject() {
        TwoScales x = new TwoScales();
        int[][] laws = {{4, 6}, {20, 24}, {21, 40}};
        for (int u = 0; u < 3; u++) {
            due("1 use LOW " + u, x.use(u, 0), laws[u][0]);
            due("1 use HIGH " + u, x.use(u, 1), laws[u][1]);
        }
        for (int what = 0; what < 5; what++) {
            due("1 count " + what, x.count(what), 0);
        }
        for (int what = 0; what < 6; what++) {
            due("1 now " + what, x.now(what), 0);
        }
        due("1 thing", x.thing(0, 0), BAD);
        due("1 person", x.person(0, 0), BAD);
        due("1 door", x.door(0, 0), BAD);
        due("1 lays", x.lays(0, 0), BAD);
        due("1 rescales", x.rescales(0, 0, 1), BAD);
        due("1 undo", x.undo(), STATE);
        due("1 housed", x.housed(0), 0);
        due("1 laying", x.laying(0, 0), BAD);
        due("1 mayBe", x.mayBe(1, 0), 48);
        due("1 next", x.next(99, 0), NONE);
        due("1 carried", x.carried(-1), 0);
        due("1 carried 0", x.carried(0), -5);
        due("1 mean upper", x.mean(0), 0);
        due("1 mean lower", x.mean(1), 1);
        due("1 turnsOfAll", x.turnsOfAll(), NONE);
        due("1 share", x.share(0, 1), BAD);
        due("1 odds upper", x.odds(10, 0, 0), 1);
        due("1 odds lower", x.odds(10, 0, 1), 1);
        due("1 rate", x.rate(0, 0), NO);
        due("1 back", x.back(0), STATE);
        due("1 trace", x.trace(), 0);
        due("1 keep", x.keep(0), 0);
        due("1 back of nothing", x.back(0), 0);
    }

    private static void type() {
        TwoScales x = new TwoScales();
        for (int bad : new int[] {-1, 256, MIN, MAX}) {
            due("2 type(" + bad + ")", x.type(bad), BAD);
        }
        due("2 type(0)", x.type(0), 1);
        due("2 type(255)", x.type(255), 2);
        for (int i = 3; i <= 200; i++) {
            due("2 type", x.type(' '), i);
        }
        due("2 full", x.type(' '), FULL);
        due("2 bad ahead of full", x.type(256), BAD);
        due("2 nothing changed", x.count(4), 200);
        due("2 letters are kept", x.house(), -10);
        x.clear();
        due("2 room again", x.type(';'), 1);
    }

    private static void clear() {
        TwoScales x = told("p1 1;");
        due("3 clear of none", x.clear(), 0);
        Check.type(x, "k0");
        due("3 clear", x.clear(), 2);
        due("3 clear again", x.clear(), 0);
        due("3 count", x.count(4), 0);
        due("3 the house stays", x.count(1), 1);
    }

    private static void houseTellsAnew() {
        TwoScales x = told("k0 1 2;k0 7 9;k2 0 0;t0 1 5 3;t1 2 6 4;p3 7;d0 1 4 8;");
        due("4 later law LOW", x.use(0, 0), 7);
        due("4 later law HIGH", x.use(0, 1), 9);
        due("4 things", x.count(0), 2);
        due("4 people", x.count(1), 1);
        due("4 doors", x.count(2), 1);
        due("4 the text is empty", x.count(4), 0);

        x = told(ANY + "t0 1 9 1;p1 10;");
        x.lays(0, 0);
        x.rescales(1, 0, 2);
        x.tries(0, 1);
        x.keep(0);
        x.keep(1);
        x.rate(0, 0);
        Check.type(x, "p1 1;x");
        due("4 fault", x.house(), -15);
        due("4 fault: the text stays", x.count(4), 6);
        due("4 fault: the laws stay", x.use(0, 1), 60);
        due("4 fault: what is laid stays", x.thing(0, 4), 0);
        due("4 fault: scales stay", x.thing(0, 1), 2);
        due("4 fault: undone", x.now(5), 2);
        due("4 fault: tried", x.count(3), 1);
        due("4 fault: an image is kept", x.back(1), 1);
        x.clear();
        due("4 something to undo", x.takes(0), 0);
        due("4 something to undo", x.lays(0, 0), 1);
        Check.type(x, "t0 1 8 1;p1 20;");
        due("4 anew", x.house(), 2);
        due("4 anew: laws as at first LOW", x.use(0, 0), 4);
        due("4 anew: laws as at first HIGH", x.use(2, 1), 40);
        due("4 anew: scale", x.thing(0, 1), 1);
        due("4 anew: nothing laid", x.thing(0, 4), NONE);
        due("4 anew: nothing tried", x.count(3), 0);
        due("4 anew: nothing undone", x.undo(), STATE);
        due("4 anew: image 0 gone", x.back(0), STATE);
        due("4 anew: image 1 gone", x.back(1), STATE);
        due("4 anew: the trace goes on", x.trace(), 1);
        due("4 empty text", x.house(), 0);
        due("4 empty text: no things", x.count(0), 0);
        due("4 empty text: nobody", x.count(1), 0);
        x = told("d0 1 1 1;d0 1 1 1;");
        due("4 empty text", x.house(), 0);
        due("4 empty text: no doors", x.count(2), 0);
        x = new TwoScales();
        Check.type(x, "p1 12;");
        x.clear();
        Check.type(x, "p1 1");
        due("4 letters that were cleared don't count", x.house(), -14);
    }

    private static void houseRefusesNothingRight() {
        itemsOf("", 0);
        itemsOf("   ", 0);
        itemsOf("k0 0 0;", 1);
        itemsOf("k2 60 60;k2 0 60;", 2);
        itemsOf("t0 1 1 1;t2 48 99 9;", 2);
        itemsOf("p1 1;p48 99;", 2);
        itemsOf("d0 1 1 1;d60 99 48 99;d60 61 1 1;", 3);
        itemsOf("  k  0  0  0  ;  p 1 1 ; ", 2);
        itemsOf("t0 1 1 1;t0 1 1 1;t0 1 1 1;t0 1 1 1;t0 1 1 1;t0 1 1 1;", 6);
        itemsOf("p1 1;p1 1;p1 1;p1 1;p1 1;", 5);
        StringBuilder laws = new StringBuilder();
        for (int i = 0; i < 28; i++) {
            laws.append("k0 0 0;");
        }
        itemsOf(laws.toString(), 28);
        itemsOf(laws + "    ", 28);
    }

    private static void houseFaultsOfGrammar() {
        faultOf(";", 0);
        faultOf("5", 0);
        faultOf("  x", 2);
        faultOf("K0 0 0;", 0);
        faultOf("\t", 0);
        faultOf("" + (char) 0, 0);
        faultOf("" + (char) 255, 0);
        faultOf("k;", 1);
        faultOf("p1;", 2);
        faultOf("p1 ;", 3);
        faultOf("p1 1 1;", 5);
        faultOf("p1 1;;", 5);
        faultOf("p1 1p1 1;", 4);
        faultOf("pp", 1);
        faultOf("p1 1;t0 1 1 k", 12);
        faultOf("p1,1;", 2);
        faultOf("p-1 1;", 1);
        // Too early an end is told by the text's length, blanks and all.
        faultOf("p", 1);
        faultOf("p1 1", 4);
        faultOf("p1 1  ", 6);
        faultOf("k0 0", 4);
        faultOf("p1 1;d", 6);
    }

    private static void houseFaultsOfNumbers() {
        faultOf("k3 0 0;", 1);
        faultOf("k0 61 61;", 3);
        faultOf("k0 0 61;", 5);
        faultOf("k0 5 4;", 5);
        faultOf("k0 5 4", 5);
        faultOf("t3 1 1 1;", 1);
        faultOf("t0 0 1 1;", 3);
        faultOf("t0 49 1 1;", 3);
        faultOf("t0 1 0 1;", 5);
        faultOf("t0 1 1 0;", 7);
        faultOf("t0 1 1 10;", 7);
        faultOf("p0 1;", 1);
        faultOf("p49 1;", 1);
        faultOf("p1 0;", 3);
        faultOf("p1 100;", 3);
        faultOf("d61 99 1 1;", 1);
        faultOf("d5 5 1 1;", 3);
        faultOf("d5 4 1 1;", 3);
        faultOf("d0 0 1 1;", 3);
        faultOf("d0 1 0 1;", 5);
        faultOf("d0 1 49 1;", 5);
        faultOf("d0 1 1 0;", 7);
        faultOf("d0 100 1 1;", 3);
        // A number above 99, and a 0 ahead of others, wherever they stand.
        faultOf("k00 0 0;", 1);
        faultOf("k0 05 9;", 3);
        faultOf("k0 0 00;", 5);
        faultOf("p01 1;", 1);
        faultOf("p1 001;", 3);
        faultOf("p1 4294967297;", 3);
        faultOf("p1 10000000000000000000000000000000000001;", 3);
        faultOf("p1 1;100", 5);
    }

    private static void houseFaultsOfTooMany() {
        String things = "t0 1 1 1;t0 1 1 1;t0 1 1 1;t0 1 1 1;t0 1 1 1;t0 1 1 1;";
        String people = "p1 1;p1 1;p1 1;p1 1;p1 1;";
        String doors = "d0 1 1 1;d0 1 1 1;d0 1 1 1;";
        faultOf(things + "t0 1 1 1;", things.length());
        faultOf(things + " t", things.length() + 1);
        faultOf(people + "p1 1;", people.length());
        faultOf(doors + "d0 1 1 1;", doors.length());
        itemsOf(things + people + doors, 14);
        faultOf(things + people + doors + "p", things.length() + people.length() + doors.length());
    }

    private static void use() {
        TwoScales x = told("k1 3 59;");
        due("5 LOW", x.use(1, 0), 3);
        due("5 HIGH", x.use(1, 1), 59);
        due("5 another", x.use(2, 0), 21);
        for (int bad : new int[] {-1, 3, MIN, MAX}) {
            due("5 use(" + bad + ", 0)", x.use(bad, 0), BAD);
        }
        for (int bad : new int[] {-1, 2, MIN, MAX}) {
            due("5 use(0, " + bad + ")", x.use(0, bad), BAD);
        }
    }

    private static void thing() {
        // Chairs of 4 .. 6 twentieths: of somebody 20 tall from 4 to 6 big.
        TwoScales x = told("t0 1 4 7;t0 1 6 1;t0 1 3 1;t0 1 7 1;t0 2 13 1;p1 20;p2 40;");
        due("6 KIND OF USE", x.thing(0, 0), 0);
        due("6 SCALE", x.thing(4, 1), 2);
        due("6 SIZE", x.thing(4, 2), 13);
        due("6 MINUTES", x.thing(0, 3), 7);
        due("6 nobody's", x.thing(0, 4), NONE);
        due("6 FITS at LOW", x.thing(0, 5), 3);
        due("6 FITS at HIGH", x.thing(1, 5), 3);
        due("6 FITS below LOW", x.thing(2, 5), 0);
        due("6 FITS above HIGH", x.thing(3, 5), 0);
        due("6 FITS a half above HIGH", x.thing(4, 5), 0);
        x.lays(1, 1);
        due("6 whose", x.thing(1, 4), 1);
        for (int bad : new int[] {-1, 5, 6, MIN, MAX}) {
            due("6 thing(" + bad + ", 0)", x.thing(bad, 0), BAD);
        }
        for (int bad : new int[] {-1, 6, MIN, MAX}) {
            due("6 thing(0, " + bad + ")", x.thing(0, bad), BAD);
        }
        // The greatest numbers: 99 by 1 and 60 twentieths of 33 by 1; 1 by 48 of 99 by 1.
        x = told("k1 60 60;k2 0 0;t1 1 99 1;t2 48 1 1;p1 33;p48 99;");
        due("6 just 60 twentieths", x.thing(0, 5), 1);
        due("6 nothing is 0 twentieths", x.thing(1, 5), 0);
    }

    private static void person() {
        TwoScales x = told(ANY + "t0 1 2 1;t1 1 2 1;p12 24;p1 2;p3 5;p48 99;");
        due("7 SCALE", x.person(0, 0), 12);
        due("7 SIZE", x.person(3, 1), 99);
        due("7 has nothing", x.person(0, 2), 0);
        due("7 TALLER than 1.67 (as tall as another)", x.person(0, 3), 1);
        due("7 TALLER, the other", x.person(1, 3), 1);
        due("7 the smallest", x.person(2, 3), 0);
        due("7 the tallest", x.person(3, 3), 3);
        due("7 lays", x.lays(1, 3), 1);
        due("7 has one", x.person(3, 2), 2);
        due("7 lays", x.lays(0, 3), 2);
        due("7 has both", x.person(3, 2), 3);
        x.rescales(0, 3, 47);
        due("7 SCALE told otherwise", x.person(3, 0), 47);
        for (int bad : new int[] {-1, 4, 5, MIN, MAX}) {
            due("7 person(" + bad + ", 0)", x.person(bad, 0), BAD);
        }
        for (int bad : new int[] {-1, 4, MIN, MAX}) {
            due("7 person(0, " + bad + ")", x.person(0, bad), BAD);
        }
    }

    private static void door() {
        TwoScales x = told("d3 4 5 6;d60 99 48 98;");
        for (int what = 0; what < 4; what++) {
            due("8 door 0 " + what, x.door(0, what), 3 + what);
        }
        due("8 FROM", x.door(1, 0), 60);
        due("8 UNTIL", x.door(1, 1), 99);
        due("8 SCALE", x.door(1, 2), 48);
        due("8 SIZE", x.door(1, 3), 98);
        for (int bad : new int[] {-1, 2, 3, MIN, MAX}) {
            due("8 door(" + bad + ", 0)", x.door(bad, 0), BAD);
        }
        for (int bad : new int[] {-1, 4, MIN, MAX}) {
            due("8 door(0, " + bad + ")", x.door(0, bad), BAD);
        }
    }

    private static void now() {
        // A chair for 0, one for nobody, a bed for both; no gates.
        TwoScales x = told("t0 1 5 1;t0 1 99 1;t1 1 22 1;p1 20;p1 22;p1 1;");
        due("9 USELESS", x.now(0), 2);
        due("9 BARE of chairs", x.now(1), 4);
        due("9 BARE of beds", x.now(2), 4);
        due("9 BARE of gates: all", x.now(3), 7);
        due("9 nobody's", x.now(4), 0);
        due("9 nothing to undo", x.now(5), 0);
        x.lays(2, 1);
        due("9 somebody's", x.now(4), 4);
        x.lays(0, 0);
        due("9 somebody's both", x.now(4), 5);
        due("9 two to undo", x.now(5), 2);
        for (int bad : new int[] {-1, 6, MIN, MAX}) {
            due("9 now(" + bad + ")", x.now(bad), BAD);
        }
        x = told("t0 1 5 1;t1 1 5 1;");
        due("9 nobody there: all is USELESS", x.now(0), 3);
        due("9 nobody is BARE", x.now(1), 0);
    }

    private static void lays() {
        TwoScales x = told("k1 0 60;t0 1 5 1;t0 1 6 1;t1 1 9 1;t2 1 1 1;p1 20;p1 24;p1 1;");
        due("10 LAID", x.lays(0, 0), 1);
        due("10 it is his already", x.lays(0, 0), STATE);
        due("10 it is somebody's", x.lays(0, 1), STATE);
        due("10 he has one", x.lays(1, 0), STATE);
        due("10 it does not FIT", x.lays(1, 2), STATE);
        due("10 it FITS nobody", x.lays(3, 0), STATE);
        due("10 of another KIND OF USE", x.lays(2, 0), 2);
        due("10 by another", x.lays(1, 1), 1);
        due("10 refused ones are not undone", x.now(5), 3);
        for (int bad : new int[] {-1, 4, 6, MIN, MAX}) {
            due("10 lays(" + bad + ", 0)", x.lays(bad, 0), BAD);
        }
        for (int bad : new int[] {-1, 3, 5, MIN, MAX}) {
            due("10 lays(0, " + bad + "): BAD ahead of STATE", x.lays(0, bad), BAD);
        }
        due("10 nothing changed", x.now(4), 7);
    }

    private static void takes() {
        TwoScales x = told(ANY + "t0 1 9 1;t1 1 9 1;p1 10;p1 10;");
        due("11 nobody's", x.takes(0), STATE);
        due("11 nothing changed", x.now(5), 0);
        x.lays(0, 1);
        x.lays(1, 0);
        due("11 whose", x.takes(0), 1);
        due("11 nobody's now", x.thing(0, 4), NONE);
        due("11 whose, the other", x.takes(1), 0);
        due("11 again", x.takes(1), STATE);
        due("11 undone", x.now(5), 4);
        for (int bad : new int[] {-1, 2, MIN, MAX}) {
            due("11 takes(" + bad + ")", x.takes(bad), BAD);
        }
    }

    private static void rescales() {
        // Beds from 20 to 24 twentieths; gates from 21 to 40.
        TwoScales x = told("t1 2 20 1;t2 2 40 1;t1 2 21 1;p2 20;p2 20;");
        x.lays(0, 0);
        x.lays(1, 0);
        x.lays(2, 1);
        due("12 a PERSON, the same", x.rescales(0, 0, 2), 2);
        due("12 all is his still", x.person(0, 2), 3);
        due("12 it is known", x.now(5), 4);
        due("12 a PERSON taller", x.rescales(0, 0, 1), 2);
        due("12 the bed is nobody's", x.thing(0, 4), NONE);
        due("12 the gate too", x.thing(1, 4), NONE);
        due("12 the other's stays", x.thing(2, 4), 1);
        due("12 undo", x.undo(), 4);
        due("12 all is back", x.person(0, 2), 3);
        due("12 a THING", x.rescales(1, 1, 3), 2);
        due("12 it FITS still", x.thing(1, 4), 0);
        due("12 a THING, again", x.rescales(1, 1, 48), 3);
        due("12 it does not FIT any more", x.thing(1, 4), NONE);
        due("12 its SCALE", x.thing(1, 1), 48);
        due("12 the other THINGS stay", x.now(4), 5);
        for (int bad : new int[] {-1, 2, MIN, MAX}) {
            due("12 rescales(" + bad + ", 0, 1)", x.rescales(bad, 0, 1), BAD);
            due("12 rescales(0, " + bad + ", 1)", x.rescales(0, bad, 1), BAD);
        }
        for (int bad : new int[] {-1, 3, MIN, MAX}) {
            due("12 rescales(1, " + bad + ", 1)", x.rescales(1, bad, 1), BAD);
        }
        for (int bad : new int[] {-1, 0, 49, MIN, MAX}) {
            due("12 rescales(0, 0, " + bad + ")", x.rescales(0, 0, bad), BAD);
            due("12 rescales(1, 0, " + bad + ")", x.rescales(1, 0, bad), BAD);
        }
        due("12 a THING that is no PERSON", x.rescales(0, 2, 1), BAD);
        due("12 the edges of SCALE", x.rescales(1, 2, 1), 2);
        due("12 the edges of SCALE", x.rescales(1, 2, 48), 1);
    }

    private static void undo() {
        TwoScales x = told(ANY + "t0 1 9 1;p1 10;");
        due("13 none", x.undo(), STATE);
        x.lays(0, 0);
        x.takes(0);
        x.rescales(0, 0, 2);
        due("13 rescales undone", x.undo(), 2);
        due("13 the SCALE", x.person(0, 0), 1);
        due("13 takes undone", x.undo(), 1);
        due("13 his again", x.thing(0, 4), 0);
        due("13 lays undone", x.undo(), 0);
        due("13 nobody's", x.thing(0, 4), NONE);
        due("13 no more", x.undo(), STATE);
        for (int s = 2; s <= 14; s++) {
            x.rescales(0, 0, s);
            due("13 known", x.now(5), Math.min(s - 1, 10));
        }
        for (int left = 9; left >= 0; left--) {
            due("13 ten are known", x.undo(), left);
            due("13 one by one", x.person(0, 0), 4 + left);
        }
        due("13 older ones are lost", x.undo(), STATE);
        due("13 the SCALE stays", x.person(0, 0), 4);
        x.tries(0, 1);
        x.rate(0, 0);
        x.rescales(0, 0, 9);
        x.keep(0);
        due("13 keep() is not undone", x.undo(), 0);
        due("13 what was TRIED stays", x.count(3), 1);
        due("13 the trace goes on", x.trace(), 1);
        due("13 the image stays", x.back(0), 0);
        due("13 the image's SCALE", x.person(0, 0), 9);
        due("13 nothing behind back()", x.undo(), STATE);
    }

    private static void housed() {
        // One of each: the chair and the bed are for 0 and 2, the gate is for everybody.
        TwoScales x = told("k2 0 60;t0 1 5 1;t1 1 22 1;t2 1 9 1;p1 19;p1 26;p1 22;");
        due("14 the chair FITS", x.thing(0, 5), 5);
        due("14 the bed FITS", x.thing(1, 5), 5);
        due("14 one", x.housed(0), 1);
        due("14 the least", x.housed(1), 1);
        x.lays(0, 2);
        due("14 whatever is LAID", x.housed(1), 1);
        due("14 nothing is changed", x.thing(0, 4), 2);

        // Two of each: the chairs fit 0 and 1, the beds 1 and 2, the gates all: 1 and nobody else.
        x = told("k2 0 60;t0 1 4 1;t0 1 4 1;t1 1 21 1;t1 1 21 1;t2 1 9 1;t2 1 9 1;p1 15;p1 20;p1 21;");
        due("14 chairs", x.thing(0, 5), 3);
        due("14 beds", x.thing(2, 5), 6);
        due("14 only one of them", x.housed(0), 1);
        due("14 who", x.housed(1), 2);

        // Four of whom any two can be housed, but for the first.
        x = told("k0 0 60;k2 0 60;t0 1 4 1;t0 1 4 1;t1 1 21 1;t1 1 21 1;t2 1 9 1;t2 1 9 1;p1 1;p1 20;p1 21;p1 20;");
        due("14 two", x.housed(0), 2);
        due("14 the least of as many", x.housed(1), 6);

        x = told("t0 1 5 1;t1 1 20 1;p1 20;");
        due("14 none without a gate", x.housed(0), 0);
        due("14 nobody", x.housed(1), 0);
        for (int bad : new int[] {-1, 2, MIN, MAX}) {
            due("14 housed(" + bad + ")", x.housed(bad), BAD);
        }
    }

    private static void laying() {
        // Chairs: 0 sits on both, 1 on the first only; so 0 has to have the second.
        TwoScales x = told("k1 0 60;k2 0 60;t0 1 4 1;t0 1 6 1;t1 1 9 1;t1 1 9 1;t2 1 9 1;t2 1 9 1;p1 20;p1 16;p1 1;");
        due("15 the first chair FITS", x.thing(0, 5), 3);
        due("15 the second chair FITS", x.thing(1, 5), 1);
        due("15 two", x.housed(1), 3);
        due("15 the chair of 0", x.laying(0, 0), 1);
        due("15 the chair of 1", x.laying(1, 0), 0);
        due("15 the bed of 0", x.laying(0, 1), 2);
        due("15 the bed of 1", x.laying(1, 1), 3);
        due("15 the gate of 0", x.laying(0, 2), 4);
        due("15 the gate of 1", x.laying(1, 2), 5);
        for (int u = 0; u < 3; u++) {
            due("15 who is not of them", x.laying(2, u), NONE);
        }
        x.lays(0, 0);
        due("15 whatever is LAID", x.laying(0, 0), 1);
        for (int bad : new int[] {-1, 3, 5, MIN, MAX}) {
            due("15 laying(" + bad + ", 0)", x.laying(bad, 0), BAD);
        }
        for (int bad : new int[] {-1, 3, MIN, MAX}) {
            due("15 laying(0, " + bad + ")", x.laying(0, bad), BAD);
        }
        x = told("t0 1 5 1;p1 20;");
        due("15 who has a chair only", x.laying(0, 0), NONE);
    }

    private static void tries() {
        TwoScales x = told("t0 1 5 1;t1 1 5 1;");
        for (int i = 1; i <= 6; i++) {
            due("16 tries", x.tries(i % 2, i % 2), i);
        }
        due("16 full", x.tries(0, 0), FULL);
        for (int bad : new int[] {-1, 2, MIN, MAX}) {
            due("16 tries(" + bad + ", 0): BAD ahead of FULL", x.tries(bad, 0), BAD);
            due("16 tries(0, " + bad + ")", x.tries(0, bad), BAD);
        }
        due("16 nothing changed", x.count(3), 6);
    }

    private static void forget() {
        TwoScales x = told("t0 1 5 1;");
        due("17 none", x.forget(), 0);
        x.tries(0, 1);
        x.tries(0, 0);
        due("17 as it was said", x.mayBe(20, 0), 0);
        due("17 two", x.forget(), 2);
        due("17 again", x.forget(), 0);
        due("17 all may be", x.mayBe(20, 0), 48);
        due("17 count", x.count(3), 0);
        due("17 room again", x.tries(0, 1), 1);
    }

    private static void mayBe() {
        // A chair 2 big fits who is from 6.67 to 10 tall: one of SIZE 60 at SCALES 6 .. 9.
        TwoScales x = told("t0 1 2 1;t1 1 8 1;");
        due("18 all", x.mayBe(60, 0), 48);
        due("18 the least of all", x.mayBe(60, 1), 1);
        x.tries(0, 1);
        due("18 by the chair", x.mayBe(60, 0), 4);
        due("18 the least", x.mayBe(60, 1), 6);
        due("18 by another SIZE: 99 at 10 .. 14", x.mayBe(99, 0), 5);
        due("18 the least", x.mayBe(99, 1), 10);
        due("18 none of SIZE 1", x.mayBe(1, 0), 0);
        due("18 the least of none", x.mayBe(1, 1), NONE);
        // A bed 8 big fits who is from 6.67 to 8 tall: SCALES 8 and 9.
        x.tries(1, 0);
        due("18 but the bed", x.mayBe(60, 0), 2);
        due("18 the least", x.mayBe(60, 1), 6);
        x.rescales(1, 0, 2);
        due("18 by THINGS as they are: 12 .. 18", x.mayBe(60, 0), 7);
        due("18 the least", x.mayBe(60, 1), 12);
        x = told("k0 20 20;t0 48 96 1;t0 1 7 1;");
        x.tries(0, 1);
        due("18 just one", x.mayBe(96, 0), 1);
        due("18 48, the last", x.mayBe(96, 1), 48);
        x.forget();
        x.tries(1, 1);
        due("18 just one", x.mayBe(7, 0), 1);
        due("18 1, the first", x.mayBe(7, 1), 1);
        for (int bad : new int[] {-1, 0, 100, MIN, MAX}) {
            due("18 mayBe(" + bad + ", 0)", x.mayBe(bad, 0), BAD);
        }
        for (int bad : new int[] {-1, 2, MIN, MAX}) {
            due("18 mayBe(60, " + bad + ")", x.mayBe(60, bad), BAD);
        }
    }

    private static void next() {
        // Of SIZE 60 the gate of size 3 fits at SCALES 21 .. 40 (60 by s from 1.5 to 2.857), the chair at 6 .. 9.
        TwoScales x = told("t0 1 2 1;t2 1 3 1;t2 1 3 1;");
        due("19 the lowest of the best", x.next(60, 0), 1);
        due("19 left at worst", x.next(60, 1), 28);
        due("19 nothing FITS one so small", x.next(1, 0), 0);
        due("19 all are left", x.next(1, 1), 48);
        x.tries(1, 1);
        due("19 nothing tells them apart", x.next(60, 0), 0);
        due("19 as many", x.next(60, 1), 20);
        x.tries(1, 0);
        due("19 none left: the lowest THING", x.next(60, 0), 0);
        due("19 none left: as many", x.next(60, 1), 0);
        for (int bad : new int[] {-1, 0, 100, MIN, MAX}) {
            due("19 next(" + bad + ", 0)", x.next(bad, 0), BAD);
        }
        for (int bad : new int[] {-1, 2, MIN, MAX}) {
            due("19 next(60, " + bad + ")", x.next(60, bad), BAD);
        }
        x = told("p1 1;");
        due("19 no THINGS", x.next(60, 0), NONE);
        due("19 no THINGS, as many", x.next(60, 1), NONE);
        due("19 BAD ahead of NONE", x.next(60, 2), BAD);
    }

    private static void bestScale() {
        // For 10 tall a chair from 2 to 3 big: 30 at 10 .. 15; for 12 from 2.4 to 3.6: 30 at 9 .. 12.
        TwoScales x = told("t0 48 30 1;p1 10;p1 12;");
        due("20 which", x.bestScale(0), 10);
        due("20 as many", x.bestScale(1), 2);
        due("20 the THING's own SCALE does not matter", x.rescales(1, 0, 1), 48);
        due("20 which, still", x.bestScale(0), 10);
        x.rescales(0, 1, 2);
        due("20 a PERSON's does: 6 tall, 30 at 17 .. 25; one at a time", x.bestScale(0), 10);
        due("20 as many", x.bestScale(1), 1);
        x = told("t0 1 1 1;p1 99;");
        due("20 none: the least", x.bestScale(0), 1);
        due("20 none", x.bestScale(1), 0);
        x = told("k0 60 60;t0 1 96 1;p48 32;");
        due("20 just at 48", x.bestScale(0), 48);
        due("20 just one", x.bestScale(1), 1);
        x = told("k0 20 20;t0 48 7 1;p1 7;");
        due("20 just at 1", x.bestScale(0), 1);
        due("20 just one", x.bestScale(1), 1);
        x = told("k0 20 20;t0 48 14 1;p1 7;");
        due("20 just at 2", x.bestScale(0), 2);
        for (int bad : new int[] {-1, 2, MIN, MAX}) {
            due("20 bestScale(" + bad + ")", x.bestScale(bad), BAD);
        }
    }

    private static void oneMore() {
        // The chair fits one of SIZE 60 at 6 .. 9, the bed at 8 .. 9 (6.67 to 8 tall).
        TwoScales x = told("t0 1 2 1;t1 1 8 1;p1 1;p1 1;p1 1;p1 1;p1 1;");
        due("21 which", x.oneMore(60, 0), 8);
        due("21 as many", x.oneMore(60, 1), 2);
        x.rescales(1, 1, 2);
        due("21 by THINGS as they are: the bed at 15 .. 18", x.oneMore(60, 0), 6);
        due("21 as many", x.oneMore(60, 1), 1);
        due("21 who is too small", x.oneMore(1, 0), 1);
        due("21 nothing FITS him", x.oneMore(1, 1), 0);
        due("21 nothing is changed", x.count(1), 5);
        x = told("k0 20 20;t0 48 96 1;");
        due("21 just at 48", x.oneMore(96, 0), 48);
        due("21 just one", x.oneMore(96, 1), 1);
        due("21 just at 1", x.oneMore(2, 0), 1);
        due("21 just one", x.oneMore(2, 1), 1);
        due("21 just at 2", x.oneMore(4, 0), 2);
        for (int bad : new int[] {-1, 0, 100, MIN, MAX}) {
            due("21 oneMore(" + bad + ", 0)", x.oneMore(bad, 0), BAD);
        }
        for (int bad : new int[] {-1, 2, MIN, MAX}) {
            due("21 oneMore(60, " + bad + ")", x.oneMore(60, bad), BAD);
        }
    }

    private static void carried() {
        TwoScales x = told("d0 1 1 1;");
        due("22 no THINGS", x.carried(-1), 0);
        due("22 no THINGS, the first", x.carried(0), -5);
        x = told("t0 1 5 9;d3 12 1 5;");
        due("22 just as long and as big", x.carried(-1), 12);
        due("22 it", x.carried(0), 0);
        due("22 not so many", x.carried(1), -5);
        due("22 not so many at all", x.carried(MAX), -5);
        for (int bad : new int[] {-2, -5, MIN}) {
            due("22 carried(" + bad + ")", x.carried(bad), BAD);
        }
        x = told("t0 1 5 9;d3 11 1 5;");
        due("22 too short", x.carried(-1), NONE);
        due("22 too short, the first", x.carried(0), NONE);
        due("22 too short, whatever k is", x.carried(MAX), NONE);
        due("22 BAD ahead of NONE", x.carried(-2), BAD);
        x = told("t0 1 5 9;d3 99 2 9;");
        due("22 too small a DOOR", x.carried(-1), NONE);
        x.rescales(1, 0, 2);
        due("22 a smaller THING", x.carried(-1), 12);
        x = told("t0 1 5 4;d0 2 1 9;d2 4 1 9;");
        due("22 one DOOR all the while", x.carried(-1), NONE);
        x = told("t0 1 5 1;");
        due("22 no DOOR", x.carried(-1), NONE);
        x = told("t0 1 5 9;d60 99 1 9;");
        due("22 from 0", x.carried(-1), 69);
    }

    private static void carriedOrders() {
        // The large one has to go ahead of the small one, by the large DOOR that closes soon.
        TwoScales x = told("t0 1 5 3;t0 1 9 4;d0 4 1 9;d2 20 1 5;");
        due("22 minutes", x.carried(-1), 7);
        due("22 the first", x.carried(0), 1);
        due("22 the second", x.carried(1), 0);
        due("22 the third", x.carried(2), -5);
        // A wait for the DOOR: any order takes as long, the lowest first.
        x = told("t0 1 5 3;t0 1 5 2;t0 1 5 1;d7 20 1 9;");
        due("22 minutes", x.carried(-1), 13);
        for (int k = 0; k < 3; k++) {
            due("22 in order", x.carried(k), k);
        }
        // Ahead of 5 the DOOR has room for the 2 and the 3, not for the 4: it goes last, by the other.
        x = told("t0 1 5 4;t0 1 5 2;t0 1 5 3;d0 5 1 9;d5 20 1 9;");
        due("22 minutes", x.carried(-1), 9);
        due("22 the first", x.carried(0), 1);
        due("22 the second", x.carried(1), 2);
        due("22 the third", x.carried(2), 0);
        // The first order that ends as soon, though it waits: 0 first, then 1 at 3.
        x = told("t0 1 1 1;t0 1 9 2;d0 5 1 1;d3 5 1 9;");
        due("22 minutes", x.carried(-1), 5);
        due("22 the lowest, for there is time", x.carried(0), 0);
        // One at a time, though two DOORS are open.
        x = told("t0 1 5 5;t0 1 5 6;d0 20 1 9;d0 20 1 9;");
        due("22 one at a time", x.carried(-1), 11);
    }

    private static void mean() {
        TwoScales x = told("p1 3;p2 3;");
        due("23 upper", x.mean(0), 9);
        due("23 lower", x.mean(1), 4);
        x.rescales(0, 0, 2);
        due("23 upper", x.mean(0), 3);
        due("23 lower", x.mean(1), 2);
        x = told("p7 9;");
        due("23 of one, upper", x.mean(0), 9);
        due("23 of one, lower", x.mean(1), 7);
        x = told("p47 99;p43 98;p41 97;p37 96;p48 95;");
        // 47 * 43 * 41 * 37 * 48 is 147161136; by 5 people.
        due("23 a large lower", x.mean(1), 735805680L);
        due("23 a large upper", x.mean(0), 309977712L + 335390496L + 348161712L + 381823488L + 291256415L);
        for (int bad : new int[] {-1, 2, MIN, MAX}) {
            due("23 mean(" + bad + ")", x.mean(bad), BAD);
        }
    }

    private static void turnsOfAll() {
        String chair = "t0 1 1 1;";
        String person = "p1 1;";
        int[][] due = {
            {NONE, NONE, NONE, NONE, NONE, NONE},
            {NONE, 1, 2, 3, 4, 5},
            {NONE, 1, 1, 3, 2, 5},
            {NONE, 1, 1, 1, 4, 5},
            {NONE, 1, 1, 1, 1, 5},
            {NONE, 1, 1, 1, 1, 1},
            {NONE, 1, 1, 1, 1, 1},
        };
        for (int chairs = 0; chairs <= 6; chairs++) {
            for (int people = 0; people <= 5; people++) {
                TwoScales x = told(chair.repeat(chairs) + person.repeat(people));
                due("24 chairs " + chairs + " people " + people, x.turnsOfAll(), due[chairs][people]);
            }
        }
        due("24 beds are no CHAIRS", told("t1 1 1 1;t2 1 1 1;p1 1;").turnsOfAll(), NONE);
    }

    private static void share() {
        TwoScales x = told("p1 1;p2 1;");
        due("25 two thirds", x.share(0, 10), 6);
        due("25 a third", x.share(1, 10), 3);
        due("25 just", x.share(0, 999), 666);
        due("25 of one crumb", x.share(0, 1), 0);
        x.rescales(0, 1, 1);
        due("25 a half", x.share(1, 999), 499);
        due("25 all of it", told("p7 9;").share(0, 999), 999);
        for (int bad : new int[] {-1, 2, 5, MIN, MAX}) {
            due("25 share(" + bad + ", 1)", x.share(bad, 1), BAD);
        }
        for (int bad : new int[] {-1, 0, 1000, MIN, MAX}) {
            due("25 share(0, " + bad + ")", x.share(0, bad), BAD);
        }
        x = told("p1 99;p47 99;p46 99;p45 99;p43 1;");
        due("25 far apart, the tall one", x.share(0, 999), 937);
        due("25 far apart, the small one", x.share(4, 999), 0);
    }

    private static void odds() {
        // Three USELESS ones (nobody is there) at 5 of 10: none 1 by 8, one at most 1 by 2.
        TwoScales x = told("t0 1 1 1;t1 1 1 1;t2 1 1 1;");
        int[][] byHalf = {{1, 8}, {1, 2}, {7, 8}, {1, 1}, {1, 1}, {1, 1}, {1, 1}};
        for (int k = 0; k <= 6; k++) {
            due("26 upper " + k, x.odds(5, k, 0), byHalf[k][0]);
            due("26 lower " + k, x.odds(5, k, 1), byHalf[k][1]);
        }
        due("26 upper: 343 by 1000", x.odds(3, 0, 0), 343);
        due("26 lower: 343 by 1000", x.odds(3, 0, 1), 1000);
        due("26 upper: 343 + 441 by 1000", x.odds(3, 1, 0), 98);
        due("26 lower: 343 + 441 by 1000", x.odds(3, 1, 1), 125);
        due("26 never seen", x.odds(0, 0, 0), 1);
        due("26 never seen", x.odds(0, 0, 1), 1);
        due("26 all are seen", x.odds(10, 2, 0), 0);
        due("26 all are seen", x.odds(10, 2, 1), 1);
        due("26 all are seen, three", x.odds(10, 3, 0), 1);
        // The one that FITS somebody does not count.
        x = told("t0 1 5 1;t0 1 9 1;p1 20;");
        due("26 one USELESS: 7 by 10", x.odds(3, 0, 0), 7);
        due("26 one USELESS: 7 by 10", x.odds(3, 0, 1), 10);
        x.rescales(1, 1, 2);
        due("26 none is USELESS any more", x.odds(3, 0, 0), 1);
        x = told("t0 1 1 1;t0 1 1 1;t0 1 1 1;t0 1 1 1;t0 1 1 1;t0 1 1 1;");
        due("26 six: 1 less 1 by a million", x.odds(1, 5, 0), 999999);
        due("26 six: 1 less 1 by a million", x.odds(1, 5, 1), 1000000);
        for (int bad : new int[] {-1, 11, MIN, MAX}) {
            due("26 odds(" + bad + ", 0, 0)", x.odds(bad, 0, 0), BAD);
        }
        for (int bad : new int[] {-1, 7, MIN, MAX}) {
            due("26 odds(0, " + bad + ", 0)", x.odds(0, bad, 0), BAD);
        }
        for (int bad : new int[] {-1, 2, MIN, MAX}) {
            due("26 odds(0, 0, " + bad + ")", x.odds(0, 0, bad), BAD);
        }
    }

    private static void rate() {
        TwoScales x = told("t0 1 9 1;t0 12 30 8;t1 48 1 9;p1 10;p1 12;p1 99;");
        int[] due = {30, 42, 22, 84, 23, 32};
        for (int kind = 0; kind <= 5; kind++) {
            due("27 rate(" + kind + ", 1)", x.rate(kind, 1), due[kind]);
        }
        due("27 GLUED below 0", x.rate(2, 2), -8);
        due("27 SOUP below 0", x.rate(4, 2), -6);
        due("27 REAL, FITS nobody", x.rate(5, 2), 1);
        x.rescales(1, 1, 24);
        due("27 TURNED by the SCALE now", x.rate(1, 1), 54);
        due("27 CARVED by the SCALE now", x.rate(3, 1), 108);
        for (int bad : new int[] {-1, 6, MIN, MAX}) {
            due("27 rate(" + bad + ", 0)", x.rate(bad, 0), NO);
        }
        for (int bad : new int[] {-1, 3, MIN, MAX}) {
            due("27 rate(0, " + bad + ")", x.rate(0, bad), NO);
        }
    }

    private static void keepAndBack() {
        TwoScales x = told(ANY + "t0 1 9 1;t1 1 9 1;p1 10;p1 10;");
        due("29 none was kept", x.back(0), STATE);
        x.lays(0, 1);
        due("28 one is somebody's", x.keep(0), 1);
        due("29 the other was not", x.back(1), STATE);
        due("29 and nothing changed", x.now(5), 1);
        x.lays(1, 0);
        x.rescales(0, 0, 2);
        x.rescales(1, 1, 3);
        x.tries(0, 1);
        x.rate(0, 0);
        due("28 both are somebody's", x.keep(1), 2);
        due("28 undone stays", x.now(5), 4);
        due("29 back", x.back(0), 1);
        due("29 whose", x.thing(0, 4), 1);
        due("29 nobody's", x.thing(1, 4), NONE);
        due("29 a PERSON's SCALE", x.person(0, 0), 1);
        due("29 a THING's SCALE", x.thing(1, 1), 1);
        due("29 nothing can be UNDONE", x.now(5), 0);
        due("29 undo", x.undo(), STATE);
        due("29 what was TRIED stays", x.count(3), 1);
        due("29 the trace goes on", x.trace(), 1);
        due("29 the other", x.back(1), 2);
        due("29 its SCALE", x.thing(1, 1), 3);
        due("29 its SCALE", x.person(0, 0), 2);
        due("29 again", x.back(0), 1);
        x.takes(0);
        due("28 kept anew", x.keep(0), 0);
        x.lays(0, 0);
        due("29 as kept anew", x.back(0), 0);
        for (int bad : new int[] {-1, 2, MIN, MAX}) {
            due("28 keep(" + bad + ")", x.keep(bad), BAD);
            due("29 back(" + bad + ")", x.back(bad), BAD);
        }
    }

    private static void count() {
        TwoScales x = told("t0 1 1 1;t0 1 1 1;t0 1 1 1;p1 1;p1 1;d0 1 1 1;");
        x.tries(0, 0);
        x.tries(0, 0);
        x.tries(1, 0);
        x.tries(2, 1);
        Check.type(x, "kkkkk");
        int[] due = {3, 2, 1, 4, 5};
        for (int what = 0; what < 5; what++) {
            due("30 count(" + what + ")", x.count(what), due[what]);
        }
        for (int bad : new int[] {-1, 5, MIN, MAX}) {
            due("30 count(" + bad + ")", x.count(bad), BAD);
        }
    }

    private static void trace() {
        TwoScales x = told("t0 1 9 1;p1 1;");
        long[] more = {1, 11, 101, 1011, 10101, 100001};
        long due = 0;
        for (int kind = 0; kind <= 5; kind++) {
            x.rate(kind, 0);
            due += more[kind];
            due("31 trace behind kind " + kind, x.trace(), due);
        }
        x.rate(6, 0);
        x.rate(-1, 0);
        x.rate(5, 1);
        due("31 nothing by what was refused", x.trace(), due);
        x.rescales(0, 0, 3);
        x.undo();
        x.keep(0);
        x.back(0);
        x.house();
        due("31 it goes on", x.trace(), due);
    }
}
