import java.util.List;
import java.util.function.IntPredicate;

/** The tape, its TOKENS, NUMBERS and FAULTS, promises 6 to 8: for each sentence that names a bound. */
public final class TextBoundsTest extends Due {
    private static final String LAW = "m1,1;", BED = "b1,1,1;", RUNNER = "g1,1,1,9;";

    // All there is room for, each NUMBER of two figures: 99 bytes, so that a full tape always has a FAULT.
    private static final String LONGEST = "m02,03;b05,06,07;b01,02,03;b09,00,00;b00,00,09;"
            + "g01,02,03,03;f09,00,00,02;s00,09,00,01;w00,00,09,00;";

    public static void main(String[] args) {
        bytesThatAreFed();
        hundredBytes();
        emptyThen();
        firstLetter();
        figuresAlone();
        signs();
        lettersOfBeds();
        lettersOfSorts();
        noBlanks();
        numbersOfTheLaw();
        numbersOfABed();
        numbersOfARunner();
        bedsOfARunner();
        bedsThatAreTaken();
        noneLies();
        oneBedAtLeast();
        fourBedsAtMost();
        fourRunnersAtMost();
        bedsAheadOfRunners();
        theEnd();
        longestText();
        theFirstToken();
        theLeastOfOneToken();
        latestFault();
        allStays();
        inPlaceOfTheOneBefore();
        end();
    }

    /** How a text is answered, on a new object: how many RUNNERS; of a FAULT 1000 times its number, and its place. */
    private static int read(String text) {
        StoneWed x = new StoneWed();
        int answer = tell(x, text);
        return x.fault() == 0 ? answer : 1000 * x.fault() + FAULTS - answer;
    }

    private static void dueFault(String text, int number, int place) {
        due(text, read(text), 1000 * number + place);
    }

    private static void dueGood(String text, int runners) {
        due(text, read(text), runners);
    }

    /** Of all bytes these alone can stand behind a text: the FAULT is the end, else the byte. */
    private static void dueBytes(String ahead, IntPredicate stands) {
        for (int letter = 0; letter < 256; letter++) {
            int place = ahead.length() + (stands.test(letter) ? 1 : 0);
            dueFault(ahead + (char) letter, 1, place);
        }
    }

    private static IntPredicate one(String letters) {
        return letter -> letters.indexOf(letter) >= 0;
    }

    /** All NUMBERS of one to three figures behind a text, that has no FAULT, but its end, if it is good. */
    private static void dueNumbers(String ahead, IntPredicate good) {
        int start = ahead.length();
        for (int n = 0; n < 10; n++) {
            dueFault(ahead + n, good.test(n) ? 1 : 2, good.test(n) ? start + 1 : start);
        }
        for (int n = 0; n < 100; n++) {
            dueFault(ahead + n / 10 + n % 10, good.test(n) ? 1 : 2, good.test(n) ? start + 2 : start);
        }
        for (int n = 0; n < 1000; n++) {
            dueFault(ahead + n / 100 + n / 10 % 10 + n % 10, 1, start);
        }
        dueFault(ahead + "0000", 1, start);
        dueFault(ahead + "00000000001", 1, start);
        dueFault(ahead + "4294967297", 1, start);
    }

    private static void bytesThatAreFed() {
        says("6: A byte (0 to 255) comes behind the tape: how many it has");
        StoneWed x = new StoneWed();
        due("the least", x.feed(0), 1);
        due("the greatest", x.feed(255), 2);
        each("byte", x::feed, BAD, -1, 256, LEAST, GREATEST, 256 + 'm');
        due("bytes", x.count(7), 2);
        due("the next", x.feed('m'), 3);
    }

    private static void hundredBytes() {
        says("1: THE TAPE has at most 100 bytes; 6: BAD; FULL");
        StoneWed x = new StoneWed();
        for (int many = 1; many <= 100; many++) {
            due("byte", x.feed('m'), many);
        }
        each("one more", x::feed, FULL, 'm', 0, 255);
        each("BAD ahead of FULL", x::feed, BAD, -1, 256, LEAST, GREATEST);
        due("bytes", x.count(7), 100);
        due("it is read yet", x.valley(), FAULTS - 1);
        due("a byte", x.feed('m'), 1);
    }

    private static void emptyThen() {
        says("7: The tape, empty then, is read");
        StoneWed x = new StoneWed();
        due("an empty one", x.valley(), FAULTS);
        due("a good one", tell(x, LAW + BED), 0);
        due("bytes", x.count(7), 0);
        due("an empty one", x.valley(), FAULTS);
        due("one with a FAULT", tell(x, LAW + "b"), FAULTS - 6);
        due("bytes", x.count(7), 0);
        due("nothing is left of it", tell(x, LAW + BED + RUNNER), 1);
    }

    private static void firstLetter() {
        says("1: valley: law bed ..: law: m ..");
        dueBytes("", one("m"));
    }

    private static void figuresAlone() {
        says("1: NUMBERS (figures, 2 at most)");
        dueBytes("m1,", TextBoundsTest::isFigure);
        dueBytes("m1,1;b", TextBoundsTest::isFigure);
        dueBytes("m1,1;b1,1,1;g1,", TextBoundsTest::isFigure);
    }

    private static void signs() {
        says("1: SIGNS , and ; nothing else");
        dueBytesBehindNumber("m1", ",");
        dueBytesBehindNumber("m1,1", ";");
        dueBytesBehindNumber("m1,1;b1", ",");
        dueBytesBehindNumber("m1,1;b1,1", ",");
        dueBytesBehindNumber("m1,1;b1,1,1;g1", ",");
        dueBytesBehindNumber("m1,1;b1,1,1;g1,1", ",");
        dueBytesBehindNumber("m1,1;b1,1,1;g1,1,1", ",");
        for (String ahead : new String[] {"m1,1;b1,1,1", "m1,1;b1,1,1;g1,1,1,9"}) {
            dueBytesBehindNumberButEnd(ahead);
        }
    }

    private static boolean isFigure(int letter) {
        return letter >= '0' && letter <= '9';
    }

    private static void dueBytesBehindNumber(String ahead, String sign) {
        for (int letter = 0; letter < 256; letter++) {
            if (!isFigure(letter)) {
                int place = ahead.length() + sign.indexOf(letter) + 1;
                dueFault(ahead + (char) letter, 1, place);
            }
        }
    }

    private static void dueBytesBehindNumberButEnd(String ahead) {
        for (int letter = 0; letter < 256; letter++) {
            if (letter == ';') {
                dueGood(ahead + ";", ahead.indexOf('g') < 0 ? 0 : 1);
            } else if (!isFigure(letter)) {
                dueFault(ahead + (char) letter, 1, ahead.length());
            }
        }
    }

    private static void lettersOfBeds() {
        says("1: bed: b ..; a bed at least");
        dueBytes(LAW, one("b"));
        dueBytes(LAW + BED, one("bgfsow"));
    }

    private static void lettersOfSorts() {
        says("1: SORT: g a gritty one, f a French one, s one that sparks, o a soft one, w a widow");
        dueBytes(LAW + BED + RUNNER, one("gfsow"));
        StoneWed x = told(LAW + BED + "g1,1,1,9;f1,1,1,9;s1,1,1,9;o1,1,1,9;");
        for (int runner = 0; runner < 4; runner++) {
            due("runner " + runner, x.kind(runner), runner + 1);
        }
        due("a widow", told(LAW + BED + "w1,1,1,9;").kind(0), 5);
    }

    private static void noBlanks() {
        says("1: nothing else, no blanks");
        String text = LAW + BED + RUNNER;
        for (String blank : new String[] {" ", "\n", "\t", "\0"}) {
            for (int at = 0; at <= text.length(); at++) {
                dueFault(text.substring(0, at) + blank + text.substring(at), 1, at);
            }
        }
    }

    private static void numbersOfTheLaw() {
        says("1: m LASTS , PEACE ; (1 to 9; 0 to 9)");
        dueNumbers("m", n -> n >= 1 && n <= 9);
        dueNumbers("m1,", n -> n <= 9);
    }

    private static void numbersOfABed() {
        says("1: b ROCK , FURROW , TEMPER ; (0 to 9 each)");
        dueNumbers("m1,1;b", n -> n <= 9);
        dueNumbers("m1,1;b0,", n -> n <= 9);
        dueNumbers("m1,1;b0,9,", n -> n <= 9);
        dueNumbers("m1,1;b1,1,1;b1,1,1;b1,1,1;b0,9,", n -> n <= 9);
        StoneWed x = told("m1,1;b0,9,5;b9,05,0;");
        int[][] due = {{0, 9, 5}, {9, 5, 0}};
        for (int what = 0; what < 3; what++) {
            due("of bed 0", x.bed(0, what), due[0][what]);
            due("of bed 1", x.bed(1, what), due[1][what]);
        }
    }

    private static void numbersOfARunner() {
        says("1: SORT ROCK , FURROW , TEMPER , BED ; (0 to 9 each)");
        for (String sort : new String[] {"g", "f", "s", "o", "w"}) {
            dueNumbers("m1,1;b1,1,1;" + sort, n -> n <= 9);
            dueNumbers("m1,1;b1,1,1;" + sort + "9,", n -> n <= 9);
            dueNumbers("m1,1;b1,1,1;" + sort + "9,0,", n -> n <= 9);
        }
        StoneWed x = told("m1,1;b1,1,1;g0,9,5,9;o9,05,0,9;");
        int[][] due = {{0, 9, 5}, {9, 5, 0}};
        for (int what = 0; what < 3; what++) {
            due("of runner 0", x.runner(0, what), due[0][what]);
            due("of runner 1", x.runner(1, what), due[1][what]);
        }
    }

    private static void bedsOfARunner() {
        says("1: a BED told .., or 9: none");
        for (int beds = 1; beds <= 4; beds++) {
            int last = beds - 1;
            dueNumbers(LAW + BED.repeat(beds) + "g1,1,1,", n -> n <= last || n == 9);
        }
        StoneWed x = told(LAW + BED.repeat(4) + "g1,1,1,3;g1,1,1,09;g1,1,1,00;g1,1,1,9;");
        int[] due = {3, NONE, 0, NONE};
        for (int runner = 0; runner < 4; runner++) {
            due("runner " + runner, x.runner(runner, 3), due[runner]);
        }
    }

    private static void bedsThatAreTaken() {
        says("1: a BED told on which none lies");
        String two = LAW + BED + BED;
        dueNumbers(two + "g1,1,1,0;g1,1,1,", n -> n == 1 || n == 9);
        dueNumbers(two + "g1,1,1,1;g1,1,1,", n -> n == 0 || n == 9);
        dueNumbers(two + "g1,1,1,9;g1,1,1,", n -> n == 0 || n == 1 || n == 9);
        dueNumbers(two + "g1,1,1,1;g1,1,1,0;g1,1,1,", n -> n == 9);
        dueGood(two + "g1,1,1,1;g1,1,1,0;g1,1,1,9;g1,1,1,9;", 4);
    }

    private static void noneLies() {
        says("1: 9: none");
        StoneWed x = told(LAW + BED + BED + "g1,1,1,9;g1,1,1,9;");
        due("how many lie", x.count(5), 0);
        due("on bed 0", x.bed(0, 3), NONE);
        due("runner 1", x.runner(1, 3), NONE);
    }

    private static void oneBedAtLeast() {
        says("1: law bed { bed } { runner }: a bed at least, no runner needed");
        dueFault(LAW, 1, 5);
        dueFault(LAW + RUNNER, 1, 5);
        dueFault(LAW + LAW, 1, 5);
        dueFault(LAW + "9", 1, 5);
        dueFault(BED, 1, 0);
        dueFault(RUNNER, 1, 0);
        dueGood(LAW + BED, 0);
    }

    private static void fourBedsAtMost() {
        says("1: BEDS 0 .. 3, 4 at most; 3 a bed more than there is room for (its letter)");
        for (int beds = 1; beds <= 4; beds++) {
            String text = LAW + BED.repeat(beds);
            dueGood(text, 0);
            due("beds", told(text).count(1), beds);
        }
        String five = LAW + BED.repeat(4);
        dueFault(five + BED, 3, five.length());
        dueFault(five + BED + BED, 3, five.length());
        dueFault(five + "b", 3, five.length());
        dueFault(five + "b999,x", 3, five.length());
        dueFault(five + "5", 1, five.length());
        dueFault(five + ";", 1, five.length());
        dueFault(LAW + BED.repeat(3) + "b1,1,10;" + BED, 2, five.length() - 2);
    }

    private static void fourRunnersAtMost() {
        says("1: RUNNERS 0 .. 3, 4 at most; 3 a runner more than there is room for (its letter)");
        for (int runners = 0; runners <= 4; runners++) {
            dueGood(LAW + BED + RUNNER.repeat(runners), runners);
        }
        String five = LAW + BED + RUNNER.repeat(4);
        for (char sort : "gfsow".toCharArray()) {
            dueFault(five + sort + "1,1,1,9;", 3, five.length());
            dueFault(five + sort, 3, five.length());
        }
        dueFault(five + "g999,x", 3, five.length());
        dueFault(five + "x", 1, five.length());
        dueFault(five + "m", 1, five.length());
        dueFault(five + "5", 1, five.length());
        dueFault(LAW + BED + RUNNER.repeat(3) + "g1,1,1,1;" + RUNNER, 2, five.length() - 2);
        String room = LAW + BED.repeat(4) + RUNNER.repeat(4);
        dueGood(room, 4);
        dueFault(room + RUNNER, 3, room.length());
    }

    private static void bedsAheadOfRunners() {
        says("1: law bed { bed } { runner }: no bed behind a runner");
        for (int beds = 1; beds <= 4; beds++) {
            String text = LAW + BED.repeat(beds) + RUNNER;
            dueFault(text + BED, 1, text.length());
        }
        String room = LAW + BED + RUNNER.repeat(4);
        dueFault(room + BED, 1, room.length());
    }

    private static void theEnd() {
        says("1: FAULTS: the end: how many bytes there are");
        String text = "m1,1;b1,1,1;b1,1,1;g1,1,1,9;g1,1,1,9;";
        for (int many = 0; many <= text.length(); many++) {
            int runners = many == 12 || many == 19 ? 0 : many == 28 ? 1 : many == 37 ? 2 : -1;
            if (runners < 0) {
                dueFault(text.substring(0, many), 1, many);
            } else {
                dueGood(text.substring(0, many), runners);
            }
        }
    }

    private static void longestText() {
        says("1: THE TAPE has at most 100 bytes: the longest text has 99");
        due("bytes", LONGEST.length(), 99);
        // Behind m0 the NUMBER is not as told; behind these places a bed, or a runner, ends.
        List<Integer> passed = List.of(2, 17, 27, 37, 47, 60, 73, 86);
        for (int many = 0; many < 99; many++) {
            if (!passed.contains(many)) {
                dueFault(LONGEST.substring(0, many), 1, many);
            }
        }
        dueGood(LONGEST, 4);
        dueFault(LONGEST + "g", 3, 99);
        dueFault(LONGEST + "b", 1, 99);
        dueFault(LONGEST + "0", 1, 99);
        StoneWed x = told(LONGEST);
        due("the first bed", x.bed(0, 2), 7);
        due("the last runner", x.runner(3, 2), 9);
        due("its bed", x.runner(3, 3), 0);
        due("a DAY", x.days(1), 10 + 6);
    }

    private static void theFirstToken() {
        says("1: FAULTS, the first TOKEN that has one (its first byte)");
        dueFault("m0,x", 2, 1);
        dueFault("mx,10", 1, 1);
        dueFault("m10,100;", 2, 1);
        dueFault("m1,1;b1,10,1;x", 2, 8);
        dueFault("m1,1;b1,1,1;g1,1,1,5;x", 2, 19);
        dueFault("m1,1;b1,1,1;g1,1,1,55;x", 2, 19);
        dueFault("m1,1;b1,1,1;g1,1,1,555;x", 1, 19);
        dueFault("m1,1;b1,1,1;x1,1,1,5;", 1, 12);
        dueFault("x" + LAW + BED.repeat(5), 1, 0);
        dueFault(LAW + BED.repeat(5) + RUNNER.repeat(5), 3, 33);
    }

    private static void theLeastOfOneToken() {
        says("1: of one TOKEN the least");
        dueFault("m100,", 1, 1);
        dueFault("m000,", 1, 1);
        dueFault("m001,", 1, 1);
        dueFault("m99,", 2, 1);
        dueFault("m1,1;b1,1,999;", 1, 10);
        dueFault("m1,1;b1,1,1;g1,1,1,999;", 1, 19);
        dueFault("m1,1;b1,1,1;g1,1,1,009;", 1, 19);
        String beds = LAW + BED.repeat(4) + RUNNER;
        dueFault(beds + "b", 1, beds.length());
        dueFault(LAW + BED + "999", 1, 12);
        dueFault("999", 1, 0);
        dueFault("m1999", 1, 1);
        dueFault("m1,1999", 1, 3);
    }

    private static void latestFault() {
        says("8: The number of the latest FAULT; 0 before one");
        StoneWed x = new StoneWed();
        due("none", x.fault(), 0);
        tell(x, LAW + BED);
        due("none behind a good text", x.fault(), 0);
        tell(x, "m0");
        due("2", x.fault(), 2);
        tell(x, LAW + BED.repeat(5));
        due("3", x.fault(), 3);
        tell(x, LAW + BED);
        due("it stays behind a good text", x.fault(), 3);
        due("and is asked twice", x.fault(), 3);
        x.valley();
        due("1", x.fault(), 1);
        due("no FINDING", x.status(), 0);
    }

    /** A VALLEY with FLOUR, ACTS, an IMAGE, a ROW and a TRACE. */
    private static StoneWed lived() {
        StoneWed x = told("m2,3;b1,5,2;b9,8,9;g3,4,4,0;s9,3,9,1;");
        x.days(3);
        x.image(1);
        x.dress(4);
        x.row(2, 1, 3);
        x.ask(0, 1);
        x.as(0, 4);
        return x;
    }

    private static void allStays() {
        says("7: of a FAULT all stays, but the tape is empty then");
        for (String text : new String[] {"", "m", LAW, LAW + "b1,1,", LAW + BED.repeat(5), LAW + BED + RUNNER + "g1,1,1,0;g1,1,1,0;"}) {
            StoneWed x = lived();
            StoneWed y = lived();
            due("a FAULT", tell(x, text) <= FAULTS ? 1 : 0, 1);
            for (int what = 0; what < 8; what++) {
                due("count " + what, x.count(what), y.count(what));
            }
            for (int what = 0; what < 5; what++) {
                due("runner 1, " + what, x.runner(1, what), y.runner(1, what));
                due("bed 0, " + what, x.bed(0, what), y.bed(0, what));
            }
            due("THE TRACE", x.trace(1), y.trace(1));
            due("status", x.status(), 3);
            due("the ACTS", x.undo(), 3);
            due("LASTS", x.days(4), y.undo() == 3 ? y.days(4) : 0);
            due("the IMAGE", x.restore(1), 1);
            due("the other", x.restore(0), STATE);
        }
        due("none stands before one is read", emptyBehindFault(), STATE);
    }

    private static int emptyBehindFault() {
        StoneWed x = told(LAW + BED + RUNNER + "g");
        due("beds", x.count(1), 0);
        due("runners", x.count(2), 0);
        return x.flourOfAll(0);
    }

    private static void inPlaceOfTheOneBefore() {
        says("1: A VALLEY that is read: DAY 0, no FLOUR; no ACT can be undone; IMAGES and ROWS stay");
        StoneWed x = lived();
        due("read", tell(x, "m1,0;b1,2,3;w1,1,1,9;"), 1);
        int[] due = {1, 1, 1, 0, 0, 0, 0, 0};
        for (int what = 0; what < 8; what++) {
            due("count " + what, x.count(what), due[what]);
        }
        due("no ACT", x.undo(), STATE);
        due("no runner more", x.runner(1, 0), BAD);
        due("no bed more", x.bed(1, 0), BAD);
        due("no FLOUR", x.bed(0, 4), 0);
        due("the ROW", x.set(2, 2, 32768), -32768);
        due("the IMAGE", x.restore(1), 1);
        due("its DAY", x.count(3), 3);
        due("its runners", x.count(2), 2);
    }
}
