/** What the tests of the edges share: a count of wrong answers, told by the document's sentence, and texts of cliffs. */
final class Answers {
    static final long NO = Long.MIN_VALUE;
    static final int NONE = -1, BAD = -2, STATE = -3, FULL = -4, NOT_ANY = -5;
    static final int NOTHING = -11, CAST = -12, PLACE = -13, SIZE = -14, CANNOT_BE = -99999;
    static final int FAR = Integer.MAX_VALUE, FAR_BELOW = Integer.MIN_VALUE;

    private static int wrong = 0;
    private static String sentence = "";

    private Answers() {
    }

    /** The sentence of the document that what follows holds to. */
    static void sentence(String words) {
        sentence = words;
    }

    static void due(String what, long got, long want) {
        if (got != want) {
            wrong++;
            System.out.println("[" + sentence + "] " + what + " answered " + got + ", due is " + want);
        }
    }

    static void feed(CliffCars x, String text) {
        for (int k = 0; k < text.length(); k++) {
            x.feed(text.charAt(k), 1);
        }
    }

    static int read(CliffCars x, String text) {
        feed(x, text);
        return x.cliff();
    }

    /** A new object whose first CLIFF is such a text. */
    static CliffCars on(String text) {
        CliffCars x = new CliffCars();
        due("cliff() of " + text, read(x, text), 0);
        return x;
    }

    static CliffCars noCliff() {
        return new CliffCars();
    }

    /** A row of ints on a TAPE. */
    static void row(CliffCars x, int tape, int... items) {
        due("tape of " + items.length, x.tape(tape, 2, items.length), 1);
        for (int k = 0; k < items.length; k++) {
            x.item(tape, k, items[k]);
        }
    }

    /** A TOLD RULE with such a ROW: its number. */
    static int told(CliffCars x, int... row) {
        int rule = x.rule(6, 0);
        for (int n : row) {
            x.row(rule, n);
        }
        return rule;
    }

    /** Ends the test's run: with 1, if an answer was wrong. */
    static void end() {
        System.out.println(wrong == 0 ? "all answers are as due" : wrong + " answers are not as due");
        if (wrong != 0) {
            System.exit(1);
        }
    }
}
