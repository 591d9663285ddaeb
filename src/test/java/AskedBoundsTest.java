/** KINDS, ASKS, counts and status(), promises 1 and 29 to 34: for each sentence that names a bound. */
public final class AskedBoundsTest extends Due {
    private static final String FOUR = "m2,3;b1,5,2;b9,8,9;g3,4,4,0;f0,9,0,9;s9,3,9,1;o5,5,5,9;";
    private static final String FIVE = "m2,3;b1,5,2;b9,8,9;w4,1,1,9;w9,0,0,1;";
    private static final String NO_RUNNER = "m9,9;b1,1,1;";

    public static void main(String[] args) {
        constants();
        newObject();
        kindsOfRunners();
        kindRefusals();
        takenAs();
        asRefusals();
        sizeOfEach();
        markOfEach();
        numbersThatAreAsked();
        furrowsThatAreAsked();
        askRefusals();
        traceIsEmptyAhead();
        placesOfTheTrace();
        countsAtLeast();
        countsAtMost();
        countRefusals();
        statusAtFirst();
        statusOfEachFinding();
        statusOfRefusals();
        statusOfOtherCalls();
        end();
    }

    private static void constants() {
        says("The public face: NONE, BAD, STATE, FULL");
        due("NONE", StoneWed.NONE, -1000000);
        due("BAD", StoneWed.BAD, -1000001);
        due("STATE", StoneWed.STATE, -1000002);
        due("FULL", StoneWed.FULL, -1000003);
    }

    private static void newObject() {
        says("1: A new object: No VALLEY");
        StoneWed x = new StoneWed();
        each("count", x::count, 0, 0, 1, 2, 3, 4, 5, 6, 7);
        each("trace", x::trace, NONE, 0, 1, 15);
        due("fault", x.fault(), 0);
        due("status", x.status(), 0);
        each("kind", x::kind, BAD, -1, 0, 3);
        each("as", runner -> x.as(runner, 0), BAD, -1, 0, 3);
        each("ask", runner -> x.ask(runner, 0), BAD, -1, 0, 3);
        due("status", x.status(), 0);
        due("another one is new, too", told(FOUR).count(2) + new StoneWed().count(2), 4);
    }

    private static void kindsOfRunners() {
        says("29: The KIND of a RUNNER, as told (1 to 5)");
        StoneWed x = told(FOUR);
        for (int runner = 0; runner < 4; runner++) {
            due("runner " + runner, x.kind(runner), runner + 1);
        }
        due("a widow", told(FIVE).kind(0), 5);
        x.as(1, 1);
        x.as(1, 0);
        due("what it is taken as does not matter", x.kind(1), 2);
    }

    private static void kindRefusals() {
        says("29: BAD");
        each("of four", told(FOUR)::kind, BAD, -1, 4, 5, LEAST, GREATEST);
        each("of two", told(FIVE)::kind, BAD, -1, 2, 3, 4);
        each("of none", told(NO_RUNNER)::kind, BAD, -1, 0, 1, 3);
    }

    private static void takenAs() {
        says("3: KINDS: 0 RUNNER; 1 GRITTY, a RUNNER; 2 FRENCH, a GRITTY; 3 SPARKING, a GRITTY; 4 SOFT, a RUNNER; 5 WIDOW, a SOFT");
        StoneWed four = told(FOUR);
        StoneWed five = told(FIVE);
        String[] are = {"110000", "111000", "110100", "100010"};
        String widow = "100011";
        for (int kind = 0; kind <= 5; kind++) {
            for (int runner = 0; runner < 4; runner++) {
                boolean is = are[runner].charAt(kind) == '1';
                due("runner " + runner + " as " + kind, four.as(runner, kind), is ? runner : KIND);
                due("number", four.status(), is ? 0 : 3);
            }
            due("a widow as " + kind, five.as(1, kind), widow.charAt(kind) == '1' ? 1 : KIND);
        }
    }

    private static void asRefusals() {
        says("30: a KIND (0 .. 5); BAD; KIND: it is no such one");
        StoneWed x = told(FOUR);
        due("it is no such one", x.as(3, 1), KIND);
        each("kind", kind -> x.as(0, kind), BAD, -1, 6, LEAST, GREATEST);
        each("runner", runner -> x.as(runner, 0), BAD, -1, 4, LEAST, GREATEST);
        each("runner, of a KIND that it would not be", runner -> x.as(runner, 5), BAD, -1, 4);
        due("BAD leaves the number", x.status(), 3);
        each("of none", runner -> told(NO_RUNNER).as(runner, 0), BAD, 0, 1);
    }

    private static void asked(StoneWed x, int runner, int what, int answer, int... trace) {
        due("runner " + runner + ", ask " + what, x.ask(runner, what), answer);
        for (int i = 0; i < 17; i++) {
            int left = i < trace.length ? trace[i] : NONE;
            due("runner " + runner + ", ask " + what + ", number " + i, x.trace(i), left);
        }
    }

    private static void sizeOfEach() {
        says("4: 0 SIZE: 10 lent to all; 11 of GRITTY; 12 of FRENCH; 13 of SOFT; 14 of WIDOWS (asked once)");
        StoneWed four = told(FOUR);
        asked(four, 0, 0, 3 + 4, 11, 10, 21, 20);
        asked(four, 1, 0, -(0 + 2 * (1 + 9)), 12, 11, 10, 24, 21, 20);
        asked(four, 2, 0, 9 + 2 + 3 - 1000, 11, 10, 22, 21, 20);
        asked(four, 3, 0, 5 - 100, 13, 10);
        asked(told(FIVE), 0, 0, 2 * (4 - 100), 14, 13, 10);
    }

    private static void markOfEach() {
        says("4: 1 MARK: 20 lent to all; 21 of GRITTY; 22 of SPARKING; 23 of SOFT; 24 of FRENCH (asked once)");
        StoneWed four = told(FOUR);
        asked(four, 0, 1, 0 + 4, 21, 20);
        asked(four, 1, 1, 2 * (1 + 9), 24, 21, 20);
        asked(four, 2, 1, 2 + 3 - 1000, 22, 21, 20);
        asked(four, 3, 1, 3 - (5 - 100), 23, 20, 13, 10);
        asked(told(FIVE), 1, 1, 1 - 2 * (9 - 100), 23, 20, 14, 13, 10);
    }

    private static void numbersThatAreAsked() {
        says("4: 20 lent to all RUNNERS: the number; 10: ROCK");
        StoneWed x = told("m1,1;b1,1,1;g0,0,0,9;g9,0,0,9;g0,0,0,9;g9,0,0,9;");
        for (int runner = 0; runner < 4; runner++) {
            asked(x, runner, 1, runner, 21, 20);
            asked(x, runner, 0, runner % 2 * 9 + runner, 11, 10, 21, 20);
        }
        StoneWed soft = told("m1,1;b1,1,1;o0,0,0,9;o9,0,0,9;w0,0,0,9;w9,0,0,9;");
        int[] size = {-100, -91, -200, -182};
        for (int runner = 0; runner < 4; runner++) {
            due("size of " + runner, soft.ask(runner, 0), size[runner]);
            due("mark of " + runner, soft.ask(runner, 1), runner - size[runner]);
        }
    }

    private static void furrowsThatAreAsked() {
        says("4: 21 of GRITTY ones: what 20 gives, and FURROW: as it is now");
        StoneWed x = told(FOUR);
        asked(x, 0, 1, 4, 21, 20);
        x.days(1);
        asked(x, 0, 1, 3, 21, 20);
        x.dress(0);
        asked(x, 0, 1, 9, 21, 20);
        x.undo();
        asked(x, 0, 1, 3, 21, 20);
        asked(told("m1,1;b1,1,1;f0,0,0,9;"), 0, 0, 0, 12, 11, 10, 24, 21, 20);
    }

    private static void askRefusals() {
        says("31: BAD (THE TRACE stays then)");
        StoneWed x = told(FOUR);
        x.ask(3, 1);
        each("what", what -> x.ask(0, what), BAD, -1, 2, LEAST, GREATEST);
        each("runner", runner -> x.ask(runner, 0), BAD, -1, 4, LEAST, GREATEST);
        int[] stays = {23, 20, 13, 10, NONE};
        for (int i = 0; i < 5; i++) {
            due("number " + i, x.trace(i), stays[i]);
        }
        each("of none", runner -> told(NO_RUNNER).ask(runner, 0), BAD, 0, 1);
    }

    private static void traceIsEmptyAhead() {
        says("31: THE TRACE is empty ahead of it");
        StoneWed x = told(FOUR);
        asked(x, 1, 0, -20, 12, 11, 10, 24, 21, 20);
        asked(x, 0, 1, 4, 21, 20);
        asked(x, 0, 1, 4, 21, 20);
        for (int turn = 0; turn < 20; turn++) {
            x.ask(1, 0);
        }
        asked(x, 3, 0, -95, 13, 10);
    }

    private static void placesOfTheTrace() {
        says("32: Number i of THE TRACE; NONE");
        StoneWed x = told(FOUR);
        each("ahead of an ask", x::trace, NONE, 0, 1, 15, 16, -1, LEAST, GREATEST);
        x.ask(1, 0);
        due("the first", x.trace(0), 12);
        due("the last", x.trace(5), 20);
        each("no such place", x::trace, NONE, 6, 15, 16, 17, -1, LEAST, GREATEST);
        due("it stays", x.trace(0), 12);
    }

    private static void countsAtLeast() {
        says("33: How many: 0 ROWS, 1 BEDS, 2 RUNNERS, 3 the DAY, 4 FLOUR, 5 that lie, 6 ACTS, 7 bytes: none");
        StoneWed x = told(NO_RUNNER);
        int[] due = {0, 1, 0, 0, 0, 0, 0, 0};
        for (int what = 0; what < 8; what++) {
            due("count " + what, x.count(what), due[what]);
        }
        x.row(0, 0, 0);
        due("a ROW without ITEMS", x.count(0), 1);
        x.feed(0);
        due("a byte", x.count(7), 1);
        x.dress(4);
        due("an ACT", x.count(6), 1);
    }

    private static void countsAtMost() {
        says("33: How many: as many as there is room for");
        StoneWed x = told("m9,9;b0,1,0;b0,1,0;b0,1,0;b0,1,0;w0,1,0,0;w0,1,0,1;w0,1,0,2;w0,1,0,3;");
        for (int passed = 0; passed < 984; passed += 24) {
            x.days(24);
        }
        x.days(15);
        for (int row = 0; row < 8; row++) {
            x.row(row, 0, 40);
        }
        for (int many = 0; many < 100; many++) {
            x.feed('m');
        }
        int[] due = {8, 4, 4, 999, 4 * 3 * 333, 4, 24, 100};
        for (int what = 0; what < 8; what++) {
            due("count " + what, x.count(what), due[what]);
        }
        x.feed('m');
        x.days(1);
        x.dress(0);
        for (int what = 0; what < 8; what++) {
            due("no more, count " + what, x.count(what), due[what]);
        }
        x.part(2);
        due("three lie", x.count(5), 3);
        x.drop(7);
        due("seven ROWS", x.count(0), 7);
    }

    private static void countRefusals() {
        says("33: BAD");
        each("a new object", new StoneWed()::count, BAD, -1, 8, LEAST, GREATEST);
        each("a valley", told(FOUR)::count, BAD, -1, 8, LEAST, GREATEST);
    }

    private static void statusAtFirst() {
        says("34: 0: it had none, or there was none");
        StoneWed x = new StoneWed();
        due("there was none", x.status(), 0);
        x.row(0, 0, 41);
        x.feed(-1);
        x.days(1);
        x.valley();
        due("nor is a refusal one, nor a FAULT", x.status(), 0);
        x.row(0, 0, 1);
        due("it had none", x.status(), 0);
    }

    private static void statusOfEachFinding() {
        says("34: the number of its FINDING; -1000010 less 1 NULL, 2 PLACE, 3 KIND, 4 SIZE, 5 STORE");
        StoneWed x = told(FOUR);
        x.row(0, 0, 1);
        x.row(1, 1, 1);
        int[] answers = {x.set(7, 0, 0), x.status(), x.set(0, 1, 0), x.status(), x.as(0, 4), x.status(),
            x.row(0, 0, -1), x.status(), x.copy(0, 0, 1, 0, 1), x.status()};
        for (int finding = 1; finding <= 5; finding++) {
            due("finding " + finding, answers[2 * finding - 2], -1000010 - finding);
            due("number " + finding, answers[2 * finding - 1], finding);
        }
        int[] good = {x.row(2, 0, 1), x.as(0, 4), x.set(0, 0, 0), x.as(0, 4), x.copy(0, 0, 2, 0, 1), x.as(0, 4),
            x.fits(0, 0, 0, 1, 1), x.as(0, 4), x.drop(2), x.as(0, 4), x.as(0, 1), x.status()};
        int[] due = {1, KIND, 0, KIND, 1, KIND, 0, KIND, 1, KIND, 0, 0};
        for (int k = 0; k < good.length; k++) {
            due("good and found in turn, " + k, good[k], due[k]);
        }
    }

    private static void dueStatus(StoneWed x, String what, int answer, int found) {
        due(what, answer, found);
        due(what + ", number", x.status(), found == BAD ? 3 : 0);
        x.as(0, 2);
    }

    private static void statusOfRefusals() {
        says("34: Of the latest call .., that was not BAD, STATE, FULL");
        StoneWed x = told(FOUR);
        x.row(0, 0, 2);
        x.row(1, 0, 2);
        x.as(0, 2);
        dueStatus(x, "row", x.row(8, 0, 1), BAD);
        dueStatus(x, "row", x.row(0, 0, 2), 2);
        dueStatus(x, "set", x.set(8, 0, 0), BAD);
        dueStatus(x, "set", x.set(0, 0, 7), 7);
        dueStatus(x, "copy", x.copy(8, 0, 0, 0, 0), BAD);
        dueStatus(x, "copy", x.copy(0, 0, 1, 0, 2), 2);
        dueStatus(x, "fits", x.fits(2, 0, 0, 1, 0), BAD);
        dueStatus(x, "fits", x.fits(0, 0, 0, 1, 0), 1);
        dueStatus(x, "as", x.as(4, 0), BAD);
        dueStatus(x, "as", x.as(1, 2), 1);
        dueStatus(x, "drop", x.drop(8), BAD);
        dueStatus(x, "drop", x.drop(0), 2);
    }

    private static void statusOfOtherCalls() {
        says("34: Of the latest call with a ROW, or as(): no other call");
        StoneWed x = told(FOUR);
        x.as(0, 2);
        x.feed('m');
        x.valley();
        tell(x, FOUR);
        x.days(1);
        x.part(0);
        x.wed(0, 0);
        x.dress(0);
        x.undo();
        x.image(0);
        x.restore(0);
        x.kind(0);
        x.ask(0, 0);
        x.trace(0);
        x.count(0);
        x.fault();
        x.flour(0, 1);
        x.flourOfAll(1);
        x.blocks(0);
        x.stable(0);
        x.most(1, -1);
        x.moved(1, 1, -1);
        x.dressing(1, 0);
        x.breaks(1, 1, 0);
        x.drawn(1, 1, 0);
        x.runner(0, 0);
        x.bed(0, 0);
        x.grinds(0, 0);
        due("it stays", x.status(), 3);
        due("it is asked twice", x.status(), 3);
    }
}
