/** Counts and tells the answers that are not the ones that are due. */
final class Checks {
    private int wrong;
    private int made;
    private String where = "";

    void at(String place) {
        where = place;
    }

    void due(String call, int got, int want) {
        made++;
        if (got != want) {
            wrong++;
            System.out.println(where + ": " + call + " answered " + got + ", due is " + want);
        }
    }

    void holds(String what, boolean is) {
        made++;
        if (!is) {
            wrong++;
            System.out.println(where + ": " + what);
        }
    }

    void finish() {
        System.out.println(wrong == 0 ? made + " answers are as due" : wrong + " of " + made + " are not as due");
        if (wrong != 0) {
            System.exit(1);
        }
    }

    static void type(BlushBank x, String text) {
        for (int i = 0; i < text.length(); i++) {
            x.feed(text.charAt(i));
        }
    }

    /** A new bank of which a text that is taken was told. */
    static BlushBank told(String text) {
        BlushBank x = new BlushBank();
        type(x, text);
        if (x.text() < 0) {
            throw new IllegalStateException("the test's own text is refused: " + text);
        }
        return x;
    }
}
