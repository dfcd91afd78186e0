/**
 * Promises 2 to 4: each sentence of the document about THE TEXT, its grammar and FAULT that names an
 * edge has a method of its own here; the sentence stands above it.
 */
public final class TextEdgesTest {
    private static final Check CHECK = new Check("TextEdgesTest");
    private static final int BAD = TwoScales.BAD, STATE = TwoScales.STATE, FULL = TwoScales.FULL;
    private static final int NONE = TwoScales.NONE;

    private static final String LAW = "k0 4 6;", THING = "t0 1 1 1;", PERSON = "p1 1;", DOOR = "d0 1 1 1;";
    private static final String[] ITEMS = {LAW, THING, PERSON, DOOR};

    private TextEdgesTest() {
    }

    private static void due(String call, long got, long want) {
        CHECK.due(call, got, want);
    }

    private static void items(String text, int items) {
        due("house() of '" + text + "'", Check.houseOf(text), items);
    }

    private static void fault(String text, int place) {
        due("house() of '" + text + "'", Check.houseOf(text), -10 - place);
    }

    public static void main(String[] args) {
        lettersFrom0To255();
        at200LettersItIsFull();
        aFullTextIsReadWhole();
        clearEmptiesIt();
        blanksAnywhere();
        onlyTheLetter32IsABlank();
        blanksAreNeededBetweenTwoNumbers();
        noItemsToo();
        eachItemIsEndedBySemicolon();
        theLaterLawHolds();
        itemsStandInAnyOrder();
        everyLetterWhereAnItemMayBegin();
        everyLetterWhereANumberIsDue();
        everyLetterWhereAnEndIsDue();
        numbersOfLaws();
        numbersOfThings();
        numbersOfPeople();
        numbersOfDoors();
        tooFewAndTooManyNumbers();
        tooManyItems();
        numbersAbove99();
        zerosAhead();
        endsTooEarly();
        theFirstFaultOfSeveral();
        aFaultChangesNothing();
        theTextStaysBehindAFault();
        theTextIsEmptyBehindAReading();
        nothingIsLeftOfFormerTexts();
        nothingIsLeftOfFaults();
        whatIsNotToldIsAsAtFirst();
        readAnew();
        CHECK.end();
    }

    // "A letter (0 .. 255) comes to THE TEXT: how many it has. BAD"
    private static void lettersFrom0To255() {
        TwoScales x = new TwoScales();
        due("-1 is no letter", x.type(-1), BAD);
        due("256 is no letter", x.type(256), BAD);
        due("256 + 'p' is no letter", x.type(256 + 'p'), BAD);
        due("the least int is no letter", x.type(Integer.MIN_VALUE), BAD);
        due("the greatest int is no letter", x.type(Integer.MAX_VALUE), BAD);
        due("none of them came to THE TEXT", x.count(4), 0);
        for (int letter = 0; letter < 200; letter++) {
            due("type(" + letter + ")", x.type(letter), letter + 1);
        }
        x.clear();
        for (int letter = 200; letter <= 255; letter++) {
            due("type(" + letter + ")", x.type(letter), letter - 199);
        }
    }

    // "a text (200 letters at most)"; "BAD; FULL."
    private static void at200LettersItIsFull() {
        TwoScales x = new TwoScales();
        for (int i = 1; i <= 200; i++) {
            due("letter " + i, x.type(' '), i);
        }
        due("letter 201", x.type(' '), FULL);
        due("letter 201, another", x.type('x'), FULL);
        due("BAD comes ahead of FULL", x.type(256), BAD);
        due("BAD comes ahead of FULL", x.type(-1), BAD);
        due("200 are there", x.count(4), 200);
        due("nothing came to it", x.house(), 0);
        due("room behind house()", x.type(' '), 1);
        Check.type(x, " ".repeat(199));
        due("full again", x.type(' '), FULL);
        due("clear() of 200", x.clear(), 200);
        due("room behind clear()", x.type(' '), 1);
    }

    // "(200 letters at most)" with an item that ends with the last letter, or just does not.
    private static void aFullTextIsReadWhole() {
        items(" ".repeat(195) + PERSON, 1);
        items(LAW.repeat(28) + "    ", 28);
        fault(" ".repeat(196) + "p1 1", 200);
        fault(" ".repeat(196) + PERSON, 200);
        fault(" ".repeat(199) + "x", 199);
        fault(" ".repeat(199) + "p", 200);
        items(" ".repeat(200) + "x", 0);
        fault("p" + "9".repeat(199), 1);
        fault("9".repeat(200), 0);
        fault(";".repeat(200), 0);
        fault("k".repeat(200), 1);
    }

    // "THE TEXT is empty: how many letters it had."
    private static void clearEmptiesIt() {
        TwoScales x = new TwoScales();
        due("clear() of none", x.clear(), 0);
        x.type('x');
        due("clear() of one", x.clear(), 1);
        due("clear() again", x.clear(), 0);
        due("empty", x.count(4), 0);
        Check.type(x, PERSON);
        due("what was cleared is not read", x.house(), 1);
        Check.type(x, "p1 1;p");
        x.clear();
        due("clear() leaves the house", x.count(1), 1);
        Check.type(x, "p1 ");
        due("nor what stood behind", x.house(), -13);
    }

    // "blanks (32), any number, ahead of, between, behind TOKENS"
    private static void blanksAnywhere() {
        String[] tokens = {"k", "0", " ", "4", " ", "6", ";", "t", "1", " ", "12", " ", "99", " ", "9", ";",
            "p", "48", " ", "1", ";", "d", "60", " ", "61", " ", "1", " ", "2", ";"};
        for (int at = 0; at <= tokens.length; at++) {
            for (int blanks = 0; blanks <= 3; blanks++) {
                StringBuilder text = new StringBuilder();
                for (int i = 0; i < tokens.length; i++) {
                    text.append(i == at ? " ".repeat(blanks) : "").append(tokens[i]);
                }
                text.append(at == tokens.length ? " ".repeat(blanks) : "");
                items(text.toString(), 4);
            }
        }
        TwoScales x = Check.told("   k   2   9   10   ;   p   7   8   ;   ");
        due("LOW", x.use(2, 0), 9);
        due("HIGH", x.use(2, 1), 10);
        due("SCALE", x.person(0, 0), 7);
        due("SIZE", x.person(0, 1), 8);
        fault("   x", 3);
        fault("p   x", 4);
        fault("p1 1   x", 7);
        fault("p1 1;   x", 8);
    }

    // "blanks (32)": nothing else that looks like one.
    private static void onlyTheLetter32IsABlank() {
        for (int letter : new int[] {0, 8, 9, 10, 11, 12, 13, 28, 31, 33, 127, 133, 160, 255}) {
            fault((char) letter + PERSON, 0);
            fault("p" + (char) letter + "1 1;", 1);
            fault("p1" + (char) letter + "1;", 2);
            fault("p1 1" + (char) letter + ";", 4);
            fault(PERSON + (char) letter, 5);
        }
    }

    // "(needed only between two NUMBERS)"
    private static void blanksAreNeededBetweenTwoNumbers() {
        items("k0 4 6;t0 1 1 1;p1 1;d0 1 1 1;", 4);
        fault("p11;", 3);
        fault("p111;", 1);
        fault("p1 1 1;", 5);
        fault("p4 8 99;", 5);
        fault("k046;", 1);
        fault("k0 46;", 5);
        fault("t1111;", 1);
        TwoScales x = Check.told("p12 34;");
        due("digits side by side are one NUMBER", x.person(0, 0), 12);
        due("digits side by side are one NUMBER", x.person(0, 1), 34);
    }

    // "ITEMS (none, too)"
    private static void noItemsToo() {
        items("", 0);
        items(" ", 0);
        TwoScales x = Check.told(LAW + THING + PERSON + DOOR);
        due("none", x.house(), 0);
        due("no THINGS any more", x.count(0), 0);
        due("nobody any more", x.count(1), 0);
        due("no DOORS any more", x.count(2), 0);
    }

    // "each ended by ;"
    private static void eachItemIsEndedBySemicolon() {
        for (String item : ITEMS) {
            int end = item.length() - 1;
            items(item, 1);
            items(item + item, 2);
            fault(item.substring(0, end), end);
            fault(item + item.substring(0, end), item.length() + end);
            fault(item + ";", item.length());
            fault(";" + item, 0);
            for (String other : ITEMS) {
                fault(item.substring(0, end) + other, end);
                fault(item.substring(0, end) + " " + other, end + 1);
                items(item + other, 2);
            }
        }
    }

    // "k U L H (the law of a KIND OF USE; told again: the later one)"
    private static void theLaterLawHolds() {
        TwoScales x = new TwoScales();
        Check.type(x, "k1 50 60;k1 0 0;k2 1 2;k1 7 8;");
        due("each is an ITEM", x.house(), 4);
        due("the later LOW", x.use(1, 0), 7);
        due("the later HIGH", x.use(1, 1), 8);
        due("another is not touched", x.use(2, 0), 1);
        due("another is not touched", x.use(2, 1), 2);
        due("one not told is as at first", x.use(0, 0), 4);
        due("one not told is as at first", x.use(0, 1), 6);
        // The law that holds is the later one for THINGS ahead of it, too: 2 big for 20 tall are 2 twentieths.
        x = Check.told("t0 1 2 1;p1 20;k0 2 2;");
        due("for a THING told ahead of it", x.thing(0, 5), 1);
    }

    // "ITEMS ...: k U L H ; t U S Z M ; p S Z ; d F U S Z": of any kind in any order, numbers in this order.
    private static void itemsStandInAnyOrder() {
        TwoScales x = Check.told("d1 2 3 4;p5 6;t2 7 8 9;k1 10 11;t1 12 13 3;p14 15;d16 17 18 19;");
        int[][] doors = {{1, 2, 3, 4}, {16, 17, 18, 19}};
        int[][] people = {{5, 6}, {14, 15}};
        int[][] things = {{2, 7, 8, 9}, {1, 12, 13, 3}};
        for (int i = 0; i < 2; i++) {
            for (int what = 0; what < 4; what++) {
                due("door " + i + " " + what, x.door(i, what), doors[i][what]);
                due("thing " + i + " " + what, x.thing(i, what), things[i][what]);
            }
            for (int what = 0; what < 2; what++) {
                due("person " + i + " " + what, x.person(i, what), people[i][what]);
            }
        }
        due("LOW", x.use(1, 0), 10);
        due("HIGH", x.use(1, 1), 11);
    }

    private static boolean isIn(String letters, int letter) {
        return letters.indexOf(letter) >= 0;
    }

    // "TOKENS are the letters k, t, p, d, NUMBERS and ;": where an ITEM may begin.
    private static void everyLetterWhereAnItemMayBegin() {
        for (int letter = 0; letter <= 255; letter++) {
            for (String ahead : new String[] {"", PERSON, PERSON + " "}) {
                String text = ahead + (char) letter;
                int place = ahead.length();
                if (letter == ' ') {
                    items(text, ahead.isEmpty() ? 0 : 1);
                } else {
                    fault(text, isIn("ktpd", letter) ? place + 1 : place);
                }
            }
        }
    }

    // The same, where a NUMBER is due: "that can't stand there".
    private static void everyLetterWhereANumberIsDue() {
        for (int letter = 0; letter <= 255; letter++) {
            fault("p" + (char) letter, isIn(" 123456789", letter) ? 2 : 1);
            fault("p1 " + (char) letter, isIn(" 123456789", letter) ? 4 : 3);
            fault("k0 " + (char) letter, isIn(" 0123456789", letter) ? 4 : 3);
        }
    }

    // The same, where a ; is due.
    private static void everyLetterWhereAnEndIsDue() {
        for (int letter = 0; letter <= 255; letter++) {
            if (letter == ';') {
                items("p1 1 ;", 1);
                items("p1 1;", 1);
            } else {
                fault("p1 1 " + (char) letter, letter == ' ' ? 6 : 5);
                fault("p1 1" + (char) letter, isIn(" 0123456789", letter) ? 5 : 4);
            }
        }
    }

    /** A text with every number from 0 to 120 in one place: it may be from least to most, anything else is a fault. */
    private static void allNumbers(String ahead, String behind, int least, int most) {
        for (int n = 0; n <= 120; n++) {
            if (n >= least && n <= most) {
                items(ahead + n + behind, 1);
            } else {
                fault(ahead + n + behind, ahead.length());
            }
        }
    }

    // "(0 .. 60 each, HIGH no less ..)"; "an H below its L"; "a NUMBER beyond what it may be, too"
    private static void numbersOfLaws() {
        allNumbers("k", " 4 6;", 0, 2);
        allNumbers("k0 ", " 60;", 0, 60);
        allNumbers("k0 0 ", ";", 0, 60);
        allNumbers("k0 1 ", ";", 1, 60);
        allNumbers("k1 30 ", ";", 30, 60);
        allNumbers("k2 60 ", ";", 60, 60);
        // The fault is the H, not the L that is above it.
        fault("k0 60 59;", 6);
        fault("k0 1 0;", 5);
        TwoScales x = Check.told("k0 0 0;k1 60 60;k2 0 60;");
        int[][] laws = {{0, 0}, {60, 60}, {0, 60}};
        for (int u = 0; u < 3; u++) {
            due("LOW " + u, x.use(u, 0), laws[u][0]);
            due("HIGH " + u, x.use(u, 1), laws[u][1]);
        }
    }

    // "THINGS ..: KIND OF USE, SCALE, SIZE, MINUTES (1 .. 9)"; "SIZE z (1 .. 99) at SCALE s (1 .. 48)"
    private static void numbersOfThings() {
        allNumbers("t", " 1 1 1;", 0, 2);
        allNumbers("t0 ", " 1 1;", 1, 48);
        allNumbers("t0 1 ", " 1;", 1, 99);
        allNumbers("t0 1 1 ", ";", 1, 9);
    }

    // "PEOPLE ..: SCALE, SIZE"
    private static void numbersOfPeople() {
        allNumbers("p", " 1;", 1, 48);
        allNumbers("p1 ", ";", 1, 99);
    }

    // "open FROM a minute (0 .. 60) UNTIL a later one (99 at most)"; "a U of a DOOR not above its F"
    private static void numbersOfDoors() {
        allNumbers("d", " 99 1 1;", 0, 60);
        allNumbers("d0 ", " 1 1;", 1, 99);
        allNumbers("d1 ", " 1 1;", 2, 99);
        allNumbers("d30 ", " 1 1;", 31, 99);
        allNumbers("d60 ", " 1 1;", 61, 99);
        allNumbers("d0 1 ", " 1;", 1, 48);
        allNumbers("d0 1 1 ", ";", 1, 99);
        // The fault is the U, not the F that is not below it.
        fault("d60 60 1 1;", 4);
        fault("d60 59 1 1;", 4);
        fault("d0 0 1 1;", 3);
    }

    // "the first TOKEN that can't stand there": a ; where a NUMBER is due, a NUMBER where a ; is due.
    private static void tooFewAndTooManyNumbers() {
        for (String item : ITEMS) {
            for (int i = 1; i < item.length() - 1; i++) {
                if (item.charAt(i) == ' ') {
                    fault(item.substring(0, i) + ";", i);
                    fault(item.substring(0, i + 1) + ";", i + 1);
                    fault(item.substring(0, i + 1) + "p", i + 1);
                }
            }
            fault(item.charAt(0) + ";", 1);
            fault(item.substring(0, item.length() - 1) + " 1;", item.length());
        }
    }

    // "(a seventh t, a sixth p, a fourth d ..)"
    private static void tooManyItems() {
        String[] item = {THING, PERSON, DOOR};
        int[] most = {6, 5, 3};
        for (int i = 0; i < 3; i++) {
            for (int n = 0; n <= most[i]; n++) {
                TwoScales x = new TwoScales();
                Check.type(x, item[i].repeat(n));
                due(n + " of " + item[i], x.house(), n);
                due("count " + i, x.count(i), n);
            }
            String full = item[i].repeat(most[i]);
            fault(full + item[i], full.length());
            fault(full + "  " + item[i], full.length() + 2);
            // It can't stand there, whatever comes behind it, or if nothing does.
            fault(full + item[i].charAt(0), full.length());
            fault(full + item[i].charAt(0) + "x", full.length());
            fault(full + item[i].charAt(0) + " 100", full.length());
            fault(full + LAW + item[i], full.length() + LAW.length());
            items(full + LAW, most[i] + 1);
            // An item of another kind is not one too many.
            items(full + item[(i + 1) % 3] + item[(i + 2) % 3], most[i] + 2);
        }
        items(THING.repeat(6) + PERSON.repeat(5) + DOOR.repeat(3) + LAW.repeat(13), 27);
    }

    // "a NUMBER above 99 .., that TOKEN's": the place of its first digit, wherever it stands.
    private static void numbersAbove99() {
        items("p1 99;", 1);
        fault("p1 100;", 3);
        fault("p1  100;", 4);
        fault("p1 990;", 3);
        fault("p100 1;", 1);
        fault("100", 0);
        fault("p1 1 100", 5);
        fault(PERSON + "100", 5);
        fault("p1 1;100;", 5);
        // None of them wraps around to what it may be: 2 to the 32nd and 64th, and 1 more.
        fault("p1 4294967296;", 3);
        fault("p1 4294967297;", 3);
        fault("p1 18446744073709551617;", 3);
        fault("p1 2147483648;", 3);
        fault("p1 " + "1".repeat(197), 3);
        fault("p1 1" + "0".repeat(196), 3);
    }

    // "a NUMBER .. with a 0 ahead of others, that TOKEN's"
    private static void zerosAhead() {
        items("k0 0 0;", 1);
        for (int n = 0; n <= 9; n++) {
            fault("p0" + n + " 1;", 1);
            fault("p1 0" + n + ";", 3);
            fault("k0 0" + n + " 60;", 3);
            fault("k0 0 0" + n + ";", 5);
            fault("k0" + n + " 0 0;", 1);
            fault("t0 1 1 0" + n + ";", 7);
            fault("d0" + n + " 99 1 1;", 1);
            fault("0" + n, 0);
        }
        fault("p1 001;", 3);
        fault("p1 012;", 3);
        fault("p1 1 00", 5);
        fault("k000 0 0;", 1);
    }

    // "the text's length, if it ends too early"
    private static void endsTooEarly() {
        String text = "k0 4 6;t1 12 90 5; p12 80 ;d0 9 12 99; ";
        int ended = 0;
        boolean inItem = false;
        for (int length = 0; length <= text.length(); length++) {
            if (length > 0) {
                char last = text.charAt(length - 1);
                ended += last == ';' ? 1 : 0;
                inItem = last != ';' && (inItem || last != ' ');
            }
            String told = text.substring(0, length);
            if (inItem) {
                fault(told, length);
                fault(told + "   ", length + 3);
            } else {
                items(told, ended);
            }
        }
        due("all of it", ended, 4);
        // A TOKEN that can't stand there comes ahead of the end.
        fault("k0 5 4", 5);
        fault("p49", 1);
        fault("d5 5", 3);
    }

    // "the first letter of the first TOKEN": of several the first from the left, of whichever sort.
    private static void theFirstFaultOfSeveral() {
        fault("x p49 1;", 0);
        fault("p49 1;x", 1);
        fault("pp x", 1);
        fault("p1 1 1 x", 5);
        fault("p1 100 0;", 3);
        fault("p0 100;", 1);
        fault("p01 100;", 1);
        fault("k3 61 60;", 1);
        fault("k0 61 60;", 3);
        fault("k0 9 8;t9", 5);
        fault("d61 5 49 100;", 1);
        fault("d60 5 49 100;", 4);
        fault("d0 5 49 100;", 5);
        fault("d0 5 48 100;", 8);
        fault("t0 49 100 10;", 3);
        fault("t0 48 100 10;", 6);
        fault("t0 48 99 10;", 9);
        fault(THING.repeat(6) + "x" + THING, 54);
        fault(THING.repeat(6) + THING + "x", 54);
    }

    // "-10 less FAULT: nothing changes"
    private static void aFaultChangesNothing() {
        String[] wrong = {"x", "k0 9 9;t0 1 1 1;p1 1;d0 1 1 1;x", "k0 9 9;t0 1 1", THING.repeat(7),
            PERSON.repeat(6), DOOR.repeat(4), "k0 9 8;", "p1 2;p1 100;", "d5 6 1 1;d5 5 1 1;"};
        for (String text : wrong) {
            TwoScales x = Check.told("k0 0 60;t0 2 9 3;t1 1 22 4;p1 20;d1 8 3 5;");
            x.lays(0, 0);
            x.lays(1, 0);
            x.keep(1);
            x.rescales(1, 1, 9);
            x.tries(1, 1);
            x.rate(3, 0);
            Check.type(x, text);
            due("a fault in '" + text + "'", x.house() <= -10 ? 1 : 0, 1);
            due("LOW", x.use(0, 0), 0);
            due("HIGH", x.use(0, 1), 60);
            due("THINGS", x.count(0), 2);
            due("PEOPLE", x.count(1), 1);
            due("DOORS", x.count(2), 1);
            due("TRIED", x.count(3), 1);
            due("a THING's MINUTES", x.thing(0, 3), 3);
            due("a THING's SIZE", x.thing(1, 2), 22);
            due("a THING's SCALE now", x.thing(1, 1), 9);
            due("whose", x.thing(0, 4), 0);
            due("nobody's", x.thing(1, 4), NONE);
            due("a PERSON's SIZE", x.person(0, 1), 20);
            due("a DOOR's UNTIL", x.door(0, 1), 8);
            due("THE TRACE", x.trace(), 1011);
            due("three may be UNDONE", x.undo(), 2);
            due("UNDONE", x.thing(1, 4), 0);
            due("no IMAGE 0", x.back(0), STATE);
            due("IMAGE 1", x.back(1), 2);
        }
    }

    // "nothing changes (THE TEXT stays, too)": so it can be gone on with.
    private static void theTextStaysBehindAFault() {
        TwoScales x = new TwoScales();
        Check.type(x, "p1 1");
        due("too early", x.house(), -14);
        due("too early again", x.house(), -14);
        due("it stays", x.count(4), 4);
        due("one letter more", x.type(';'), 5);
        due("right now", x.house(), 1);
        Check.type(x, "p1 1;x");
        due("a fault", x.house(), -15);
        due("it has all its letters", x.clear(), 6);
        Check.type(x, "x".repeat(200));
        due("a fault", x.house(), -10);
        due("full still", x.type(';'), FULL);
    }

    // "THE TEXT tells all anew, and is empty then: how many ITEMS."
    private static void theTextIsEmptyBehindAReading() {
        TwoScales x = new TwoScales();
        Check.type(x, " p1 1; ");
        due("one ITEM", x.house(), 1);
        due("empty", x.count(4), 0);
        due("clear()", x.clear(), 0);
        due("the next letter is the first", x.type('d'), 1);
        Check.type(x, "0 1 1 1;");
        due("the text before is not read again", x.house(), 1);
        due("nobody", x.count(1), 0);
        due("a DOOR", x.count(2), 1);
    }

    // "THE TEXT tells all anew": one text behind another, each alone.
    private static void nothingIsLeftOfFormerTexts() {
        TwoScales x = new TwoScales();
        int[][] told = {{6, 5, 3}, {1, 0, 0}, {0, 1, 0}, {0, 0, 1}, {0, 0, 0}, {2, 3, 2}, {6, 0, 1}};
        for (int i = 0; i < 21; i++) {
            int[] many = told[i % 7];
            Check.type(x, "t0 1 1 1;".repeat(many[0]) + "p1 1;".repeat(many[1]) + "d0 1 1 1;".repeat(many[2]));
            due("reading " + i, x.house(), many[0] + many[1] + many[2]);
            for (int what = 0; what < 3; what++) {
                due("count(" + what + ") behind reading " + i, x.count(what), many[what]);
            }
        }
    }

    // "-10 less FAULT: nothing changes": nor does what stood ahead of the FAULT count in the next reading.
    private static void nothingIsLeftOfFaults() {
        TwoScales x = new TwoScales();
        for (int i = 0; i < 3; i++) {
            Check.type(x, "k0 9 9;" + THING.repeat(4) + PERSON.repeat(4) + DOOR.repeat(2) + "x");
            due("the x", x.house(), -10 - 81);
            due("the x again", x.house(), -10 - 81);
            x.clear();
            Check.type(x, THING.repeat(3) + PERSON.repeat(2) + DOOR);
            due("right", x.house(), 6);
            due("THINGS", x.count(0), 3);
            due("PEOPLE", x.count(1), 2);
            due("DOORS", x.count(2), 1);
            due("LOW", x.use(0, 0), 4);
        }
    }

    // "(Read anew: as told (what is not told as at first) ..)"
    private static void whatIsNotToldIsAsAtFirst() {
        TwoScales x = new TwoScales();
        int[][] first = {{4, 6}, {20, 24}, {21, 40}};
        for (int told = -1; told < 3; told++) {
            Check.type(x, "k0 1 2;k1 1 2;k2 1 2;");
            due("all laws are told", x.house(), 3);
            Check.type(x, told < 0 ? "" : "k" + told + " 58 59;");
            due("one law at most is told", x.house(), told < 0 ? 0 : 1);
            for (int u = 0; u < 3; u++) {
                due("LOW of " + u + " behind " + told, x.use(u, 0), u == told ? 58 : first[u][0]);
                due("HIGH of " + u + " behind " + told, x.use(u, 1), u == told ? 59 : first[u][1]);
            }
        }
    }

    // "(Read anew: .. nothing LAID, nothing TRIED, IMAGES are gone, nothing can be UNDONE; THE TRACE goes on ..)"
    private static void readAnew() {
        String text = "t0 1 5 1;t1 1 22 2;p1 20;";
        TwoScales x = Check.told(text);
        x.lays(0, 0);
        x.lays(1, 0);
        x.rescales(1, 1, 2);
        x.rescales(0, 0, 3);
        x.tries(0, 1);
        x.keep(0);
        x.keep(1);
        x.rate(0, 0);
        Check.type(x, text);
        due("the same text anew", x.house(), 3);
        due("nothing LAID", x.now(4), 0);
        due("nobody's", x.thing(0, 4), NONE);
        due("he has nothing", x.person(0, 2), 0);
        due("a THING's SCALE as told", x.thing(1, 1), 1);
        due("a PERSON's SCALE as told", x.person(0, 0), 1);
        due("nothing TRIED", x.count(3), 0);
        due("nothing TRIED", x.forget(), 0);
        due("all may be", x.mayBe(50, 0), 48);
        due("IMAGE 0 is gone", x.back(0), STATE);
        due("IMAGE 1 is gone", x.back(1), STATE);
        due("none may be UNDONE", x.now(5), 0);
        due("nothing can be UNDONE", x.undo(), STATE);
        due("THE TRACE goes on", x.trace(), 1);
        x.rate(1, 0);
        due("THE TRACE goes on", x.trace(), 12);
        due("and it can be LAID", x.lays(0, 0), 1);
        due("and UNDONE", x.undo(), 0);
    }
}
