import java.util.function.IntUnaryOperator;

/** What the tests by hand share: answers that are due, valleys told in a text, items that are read back. */
abstract class Due {
    static final int NONE = -1000000, BAD = -1000001, STATE = -1000002, FULL = -1000003;
    static final int NULL = -1000011, PLACE = -1000012, KIND = -1000013, SIZE = -1000014, STORE = -1000015;
    static final int FAULTS = -1000100;
    static final int LEAST = Integer.MIN_VALUE, GREATEST = Integer.MAX_VALUE;

    // On bed 0 of this valley the runners grind 1, 2, 3, 4, so that fits() tells which of these an item is.
    private static final String ITEMS = "m1,9;b0,0,0;g0,1,0,9;g0,2,0,9;g0,3,0,9;g0,4,0,9;";

    private static String sentence = "";
    private static int answers;
    private static int wrong;

    /** The words of the document that the answers behind this are due to. */
    static void says(String words) {
        sentence = words;
    }

    static void due(String what, int got, int want) {
        answers++;
        if (got != want) {
            wrong++;
            System.out.println((sentence.isEmpty() ? "" : sentence + " | ") + what + ": answered " + got + ", due is " + want);
        }
    }

    /** The same answer is due for each of these numbers. */
    static void each(String what, IntUnaryOperator call, int want, int... numbers) {
        for (int number : numbers) {
            due(what + " " + number, call.applyAsInt(number), want);
        }
    }

    static void end() {
        System.out.println(answers + " answers, " + wrong + " not as due");
        if (wrong != 0) {
            System.exit(1);
        }
    }

    static void feed(StoneWed x, String text) {
        for (int i = 0; i < text.length(); i++) {
            x.feed(text.charAt(i));
        }
    }

    static int tell(StoneWed x, String text) {
        feed(x, text);
        return x.valley();
    }

    static StoneWed told(String text) {
        StoneWed x = new StoneWed();
        tell(x, text);
        return x;
    }

    /** A new valley by which item() reads; the ROWS stay. */
    static void tellItems(StoneWed x) {
        x.valley();
        tell(x, ITEMS);
    }

    /** An ITEM, if it is 0 to 4; -1, if it is another number; the finding, if it is not there. */
    static int item(StoneWed x, int row, int i) {
        int fits = x.fits(0, row, i, 1, 0);
        switch (fits) {
            case 16: return 0;
            case 1: return 1;
            case 2: return 2;
            case 4: return 3;
            case 8: return 4;
            case 0: return -1;
            default: return fits;
        }
    }

    static void dueItems(String what, StoneWed x, int row, int... items) {
        for (int i = 0; i < items.length; i++) {
            due(what + ", item " + i, item(x, row, i), items[i]);
        }
        due(what + ", beyond the end", item(x, row, items.length), PLACE);
    }
}
