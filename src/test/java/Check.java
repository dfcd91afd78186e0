/** Counts the answers that are not due; every test ends with end(). */
final class Check {
    private final String test;
    private int asked;
    private int wrong;

    Check(String test) {
        this.test = test;
    }

    void due(String call, long got, long want) {
        asked++;
        if (got != want) {
            wrong++;
            System.out.println(test + ": " + call + " answered " + got + ", due is " + want);
        }
    }

    void holds(String what, boolean held) {
        asked++;
        if (!held) {
            wrong++;
            System.out.println(test + ": does not hold: " + what);
        }
    }

    boolean tooMany() {
        return wrong >= 20;
    }

    void end() {
        System.out.println(test + ": " + asked + " asked, " + wrong + " wrong");
        if (wrong != 0 || asked == 0) {
            System.exit(1);
        }
    }

    static void type(TwoScales x, String text) {
        for (int i = 0; i < text.length(); i++) {
            x.type(text.charAt(i));
        }
    }

    /** What house() answers to a text on a new object. */
    static int houseOf(String text) {
        TwoScales x = new TwoScales();
        type(x, text);
        return x.house();
    }

    /** A new object that was told a text without a fault. */
    static TwoScales told(String text) {
        TwoScales x = new TwoScales();
        type(x, text);
        int items = x.house();
        if (items < 0) {
            throw new IllegalStateException("the test's own text has a fault: " + text + " (" + items + ")");
        }
        return x;
    }
}
