/** GRINDING, DAYS and the other ACTS, promises 9 to 16: for each sentence that names a bound. */
public final class ActBoundsTest extends Due {
    // LASTS 2, PEACE 3; the gritty runner lies on bed 0, the one that sparks on bed 1.
    private static final String TWO = "m2,3;b1,5,2;b9,8,9;g3,4,4,0;f0,9,0,9;s9,3,9,1;o5,5,5,9;";
    private static final String ALL = "m1,9;b1,1,1;b1,1,1;b1,1,1;b1,1,1;g1,1,1,0;g1,1,1,9;g1,1,1,9;g1,1,1,9;";
    private static final String NO_RUNNER = "m1,9;b1,1,1;";

    public static void main(String[] args) {
        gritty();
        french();
        soft();
        widow();
        moreThanPeace();
        halfIsCut();
        lying();
        lastsDivides();
        furrowsNoLess();
        sparking();
        dayIsOneMore();
        howManyDays();
        beyondTheLastDay();
        noValley();
        anActEach();
        actsThatChangeNothing();
        weddings();
        wedRefusals();
        partings();
        dressings();
        dressRefusals();
        actsKept();
        latestFirst();
        longLife();
        noneToUndo();
        runnersAsked();
        bedsAsked();
        grindsAsked();
        end();
    }

    /** What runner 0 would GRIND on bed 0, of a SORT and NUMBERS as a text tells them. */
    private static int ground(String runner, String bed, int peace) {
        return told("m9," + peace + ";b" + bed + ";" + runner + ",9;").grinds(0, 0);
    }

    private static void gritty() {
        says("2: as much as both FURROWS together less by how much their ROCKS differ (0 at least)");
        for (String sort : new String[] {"g", "s"}) {
            due("the most", ground(sort + "0,9,0", "0,9,0", 9), 18);
            due("both ROCKS 9", ground(sort + "9,9,0", "9,9,0", 9), 18);
            due("the runner's ROCK is less", ground(sort + "1,2,0", "5,3,0", 9), 1);
            due("the bed's ROCK is less", ground(sort + "5,2,0", "1,3,0", 9), 1);
            due("they differ as much", ground(sort + "0,2,0", "5,3,0", 9), 0);
            due("they differ as much", ground(sort + "5,2,0", "0,3,0", 9), 0);
            due("they differ by more", ground(sort + "0,2,0", "6,3,0", 9), 0);
            due("they differ by the most", ground(sort + "9,0,0", "0,0,0", 9), 0);
            due("no FURROWS", ground(sort + "4,0,0", "4,0,0", 9), 0);
        }
    }

    private static void french() {
        says("2: a French one twice that");
        due("the most", ground("f0,9,0", "0,9,0", 9), 36);
        due("1", ground("f1,2,0", "5,3,0", 9), 2);
        due("0", ground("f5,2,0", "0,3,0", 9), 0);
        due("0 at least", ground("f9,2,0", "0,3,0", 9), 0);
    }

    private static void soft() {
        says("2: a soft one half of the BED's FURROW (cut)");
        int[] half = {0, 0, 1, 1, 2, 2, 3, 3, 4, 4};
        for (int furrow = 0; furrow < 10; furrow++) {
            due("FURROW " + furrow, ground("o0,9,0", "9," + furrow + ",0", 9), half[furrow]);
        }
    }

    private static void widow() {
        says("2: a widow that, and 3 more if 3 divides DAY as it begins");
        due("no FURROW", ground("w0,9,0", "9,0,0", 9), 3);
        due("FURROW 1", ground("w0,9,0", "9,1,0", 9), 3);
        due("FURROW 9", ground("w0,9,0", "9,9,0", 9), 7);
        StoneWed x = told("m9,9;b0,9,0;b0,9,0;w0,0,0,1;o0,0,0,9;");
        int[] due = {7, 4, 4, 7, 4, 4, 7};
        for (int day = 0; day < 7; day++) {
            due("DAY " + day, x.grinds(0, 0), due[day]);
            due("a soft one, DAY " + day, x.grinds(1, 0), 4);
            // It wears on DAY 0 alone: bed 1 has FURROW 8 then, half of which is as much.
            due("so it is GROUND", x.days(1), due[day]);
        }
    }

    private static void moreThanPeace() {
        says("2: If their TEMPERS differ by more than PEACE, they quarrel");
        due("by PEACE", ground("g0,4,0", "0,4,3", 3), 8);
        due("by PEACE", ground("g0,4,3", "0,4,0", 3), 8);
        due("by 1 more", ground("g0,4,0", "0,4,4", 3), 4);
        due("by 1 more", ground("g0,4,4", "0,4,0", 3), 4);
        due("PEACE 0, not at all", ground("g0,4,7", "0,4,7", 0), 8);
        due("PEACE 0, by 1", ground("g0,4,7", "0,4,8", 0), 4);
        due("PEACE 0, by 1", ground("g0,4,8", "0,4,7", 0), 4);
        due("PEACE 8, by 9", ground("g0,4,0", "0,4,9", 8), 4);
        due("PEACE 9, by 9", ground("g0,4,0", "0,4,9", 9), 8);
        due("PEACE 9, by 9", ground("g0,4,9", "0,4,0", 9), 8);
    }

    private static void halfIsCut() {
        says("2: they quarrel, and it is half of that (cut)");
        due("of 0", ground("g0,0,0", "0,0,9", 0), 0);
        due("of 1", ground("g0,1,0", "0,0,9", 0), 0);
        due("of 3", ground("g0,2,0", "0,1,9", 0), 1);
        due("of 17", ground("s0,8,0", "0,9,9", 0), 8);
        due("of twice 3, of a French one", ground("f0,2,0", "0,1,9", 0), 3);
        due("of the half of 7, of a soft one", ground("o0,0,0", "0,7,9", 0), 1);
        due("of the half of 9 and 3, of a widow", ground("w0,0,0", "0,9,9", 0), 3);
        due("of 3, of a widow", ground("w0,0,0", "0,0,9", 0), 1);
    }

    private static void lying() {
        says("2: A DAY: each RUNNER that lies on a BED GRINDS");
        StoneWed none = told("m1,9;b0,5,0;g0,5,0,9;");
        due("none lies", none.days(1), 0);
        due("FURROW of a runner that lies nowhere", none.runner(0, 1), 5);
        due("FURROW of a bed on which none lies", none.bed(0, 1), 5);
        due("no FLOUR", none.count(4), 0);
        due("the DAY", none.count(3), 1);
        StoneWed nobody = told(NO_RUNNER);
        due("no runners", nobody.days(24), 0);
        due("the DAY", nobody.count(3), 24);
        StoneWed full = told("m9,9;b0,1,0;b0,2,0;b0,3,0;b0,4,0;g0,1,0,3;g0,1,0,2;g0,1,0,1;g0,1,0,0;");
        due("all lie", full.days(1), 2 + 3 + 4 + 5);
        each("FLOUR less FURROW as it was", bed -> full.bed(bed, 4) - bed, 2, 0, 1, 2, 3);
    }

    private static void lastsDivides() {
        says("2: if LASTS divides DAY (as it began; 0, too), FURROW of each RUNNER that lies, and of that BED, is 1 less");
        int[] lasts = {1, 2, 3, 9};
        int[][] furrow = {{8, 7, 6, 5, 4, 3, 2, 1, 0, 0, 0}, {8, 8, 7, 7, 6, 6, 5, 5, 4, 4, 3},
            {8, 8, 8, 7, 7, 7, 6, 6, 6, 5, 5}, {8, 8, 8, 8, 8, 8, 8, 8, 8, 7, 7}};
        for (int k = 0; k < 4; k++) {
            StoneWed x = told("m" + lasts[k] + ",9;b0,9,0;b0,9,0;g0,9,0,0;g0,9,0,9;");
            for (int day = 0; day < 11; day++) {
                x.days(1);
                due("LASTS " + lasts[k] + ", runner, behind DAY " + day, x.runner(0, 1), furrow[k][day]);
                due("LASTS " + lasts[k] + ", bed, behind DAY " + day, x.bed(0, 1), furrow[k][day]);
            }
            due("a runner that lies nowhere", x.runner(1, 1), 9);
            due("a bed on which none lies", x.bed(1, 1), 9);
        }
        StoneWed each = told("m1,9;b0,9,0;b0,9,0;b0,9,0;b0,9,0;g0,9,0,3;f0,9,0,2;o0,9,0,1;w0,9,0,0;");
        due("all SORTS wear", each.days(1), 18 + 36 + 4 + 7);
        each("runner", runner -> each.runner(runner, 1), 8, 0, 1, 2, 3);
        each("bed", bed -> each.bed(bed, 1), 8, 0, 1, 2, 3);
    }

    private static void furrowsNoLess() {
        says("2: FURROW is 1 less (0 at least)");
        StoneWed x = told("m1,9;b0,0,0;b0,1,0;b0,2,0;g0,2,0,0;g0,0,0,1;g0,1,0,2;");
        int[][] runners = {{1, 0, 0}, {0, 0, 0}, {0, 0, 0}};
        int[][] beds = {{0, 0, 1}, {0, 0, 0}, {0, 0, 0}};
        for (int day = 0; day < 3; day++) {
            x.days(1);
            for (int k = 0; k < 3; k++) {
                due("runner " + k + ", behind DAY " + day, x.runner(k, 1), runners[day][k]);
                due("bed " + k + ", behind DAY " + day, x.bed(k, 1), beds[day][k]);
            }
        }
    }

    private static void sparking() {
        says("2: of the BED of one that sparks 1 less in any case, besides (0 at least)");
        int[] first = {0, 0, 0, 1};
        int[] second = {0, 0, 0, 0};
        for (int furrow = 0; furrow < 4; furrow++) {
            StoneWed x = told("m2,9;b0," + furrow + ",0;s0,9,0,0;");
            x.days(1);
            due("a bed of " + furrow + ", DAY 0, LASTS divides it", x.bed(0, 1), first[furrow]);
            due("its runner, once alone", x.runner(0, 1), 8);
            x.days(1);
            due("a bed of " + furrow + ", DAY 1, LASTS does not", x.bed(0, 1), second[furrow]);
            due("its runner does not", x.runner(0, 1), 8);
        }
        StoneWed x = told("m9,9;b0,9,0;b0,9,0;s0,9,0,1;s0,9,0,9;");
        x.days(1);
        due("twice on DAY 0", x.bed(1, 1), 7);
        x.days(1);
        due("once on DAY 1", x.bed(1, 1), 6);
        due("no other bed", x.bed(0, 1), 9);
    }

    private static void dayIsOneMore() {
        says("2: DAY is 1 more; 9: how much is GROUND in them");
        StoneWed x = told(TWO);
        due("DAY 0", x.days(1), 18);
        due("DAYS 1 and 2", x.days(2), 25);
        due("DAY", x.count(3), 3);
        StoneWed y = told(TWO);
        due("the same at once", y.days(3), 18 + 25);
        due("DAY", y.count(3), 3);
        due("FLOUR", y.count(4), 43);
    }

    private static void howManyDays() {
        says("9: n DAYS (1 to 24); BAD");
        StoneWed x = told(ALL);
        each("n", x::days, BAD, 0, -1, 25, 26, LEAST, GREATEST);
        due("DAY", x.count(3), 0);
        due("no ACT", x.count(6), 0);
        due("one", x.days(1), 2);
        due("DAY", x.count(3), 1);
        due("twenty-four", x.days(24), 0);
        due("DAY", x.count(3), 25);
    }

    /** A VALLEY at a DAY, by as few calls as can be. */
    private static StoneWed atDay(int day) {
        StoneWed x = told(NO_RUNNER);
        for (int passed = 0; passed < day; passed += 24) {
            x.days(Math.min(24, day - passed));
        }
        return x;
    }

    private static void beyondTheLastDay() {
        says("9: FULL: beyond DAY 999");
        for (int n : new int[] {1, 2, 24}) {
            StoneWed x = atDay(999 - n);
            due("to DAY 999", x.days(n), 0);
            due("DAY", x.count(3), 999);
            StoneWed y = atDay(1000 - n);
            due("to DAY 1000", y.days(n), FULL);
            due("DAY", y.count(3), 1000 - n);
            due("no ACT", y.count(6), 24);
        }
        StoneWed x = atDay(999);
        each("n", x::days, FULL, 1, 2, 24);
        each("BAD ahead of FULL", x::days, BAD, 0, -1, 25, LEAST, GREATEST);
        due("a DAY is undone", x.undo(), 23);
        due("two are too many", x.days(2), FULL);
        due("one is not", x.days(1), 0);
        due("DAY", x.count(3), 999);
        due("other ACTS yet", x.dress(4), 1);
    }

    private static void noValley() {
        says("9: STATE: no VALLEY (ahead of BAD)");
        StoneWed x = new StoneWed();
        each("n", x::days, STATE, 1, 24, 0, -1, 25, LEAST, GREATEST);
        each("no runner", runner -> x.wed(runner, 0), BAD, 0, 1, -1);
        each("no runner", x::part, BAD, 0, 3, -1);
        each("no stone", x::dress, BAD, 0, 3, 4, 7, 8, -1);
        each("no runner", runner -> x.runner(runner, 0), BAD, 0, 3);
        each("no bed", bed -> x.bed(bed, 0), BAD, 0, 3);
        due("grinds", x.grinds(0, 0), BAD);
        due("DAY", x.count(3), 0);
        due("no ACT", x.count(6), 0);
    }

    private static void anActEach() {
        says("9: n DAYS, an ACT each; 2: ACTS: a DAY; WED; PARTED; DRESSED");
        StoneWed x = told(TWO);
        int[] due = {1, 2, 3, 4, 7, 24};
        x.dress(0);
        due("dressed", x.count(6), due[0]);
        x.part(0);
        due("parted", x.count(6), due[1]);
        x.wed(0, 0);
        due("wed", x.count(6), due[2]);
        x.days(1);
        due("a DAY", x.count(6), due[3]);
        x.days(3);
        due("three DAYS", x.count(6), due[4]);
        x.days(24);
        due("twenty-four", x.count(6), due[5]);
        StoneWed y = told(TWO);
        y.days(24);
        due("twenty-four at once", y.count(6), 24);
        y.undo();
        due("one DAY is undone by one", y.count(3), 23);
        y.dress(9);
        y.part(1);
        y.wed(0, 0);
        y.days(25);
        due("what is refused is none", y.count(6), 23);
        due("nor is what is asked", y.flourOfAll(9) - y.flourOfAll(9) + y.count(6), 23);
    }

    private static void actsThatChangeNothing() {
        says("2: also such by which nothing becomes another");
        StoneWed x = told(TWO);
        due("one that has 9", x.dress(1), 9);
        due("is an ACT", x.count(6), 1);
        due("once more", x.dress(1), 9);
        due("another", x.count(6), 2);
        due("undone", x.undo(), 1);
        due("it has 9 yet", x.runner(1, 1), 9);
        due("undone", x.undo(), 0);
        due("it has 9 yet", x.runner(1, 1), 9);
        due("none", x.undo(), STATE);
    }

    private static void weddings() {
        says("10: WED to a BED on which none lies (it may lie on another one ahead of that): how much it GRINDS there now");
        StoneWed x = told(TWO);
        x.part(2);
        due("from bed 0 to bed 1, a quarrel", x.wed(0, 1), 3);
        due("bed 0 is left", x.bed(0, 3), NONE);
        due("bed 1", x.bed(1, 3), 0);
        due("the runner", x.runner(0, 3), 1);
        due("from nowhere", x.wed(1, 0), 26);
        due("undone, nowhere again", x.undo() + x.runner(1, 3), 2 + NONE);
        due("undone, on bed 0 again", x.undo() + x.runner(0, 3), 1);
        StoneWed idle = told("m1,9;b9,0,0;g0,0,0,9;");
        due("a wedding by which nothing is GROUND", idle.wed(0, 0), 0);
        due("it lies", idle.count(5), 1);
        StoneWed all = told(ALL);
        due("the last one on the last bed", all.wed(3, 3), 2);
        due("lies there", all.bed(3, 3), 3);
    }

    private static void wedRefusals() {
        says("10: BAD; STATE: one (it, another one) lies there");
        StoneWed x = told(TWO);
        each("runner, on a bed that is taken", runner -> x.wed(runner, 0), BAD, -1, 4, LEAST, GREATEST);
        each("bed", bed -> x.wed(0, bed), BAD, -1, 2, 9, NONE, LEAST, GREATEST);
        due("it lies there", x.wed(0, 0), STATE);
        due("another one lies there", x.wed(2, 0), STATE);
        due("one from nowhere", x.wed(1, 1), STATE);
        int[] lies = {0, NONE, 1, NONE};
        for (int runner = 0; runner < 4; runner++) {
            due("runner " + runner, x.runner(runner, 3), lies[runner]);
        }
        due("no ACT", x.count(6), 0);
        StoneWed all = told(ALL);
        due("the last ones", all.wed(3, 3), 2);
        due("no bed more", all.wed(3, 4), BAD);
        due("no runner more", all.wed(4, 2), BAD);
        due("of no runners", told(NO_RUNNER).wed(0, 0), BAD);
    }

    private static void partings() {
        says("11: PARTED: on which BED it lay. BAD; STATE: nowhere");
        StoneWed x = told(TWO);
        each("runner", x::part, BAD, -1, 4, LEAST, GREATEST);
        each("one that lies nowhere", x::part, STATE, 1, 3);
        due("from bed 1", x.part(2), 1);
        due("from bed 0", x.part(0), 0);
        each("again", x::part, STATE, 0, 2);
        due("none lies", x.count(5), 0);
        due("ACTS", x.count(6), 2);
        StoneWed all = told(ALL);
        all.wed(3, 3);
        due("the last one from the last bed", all.part(3), 3);
        due("of no runners", told(NO_RUNNER).part(0), BAD);
    }

    private static void dressings() {
        says("12: a stone is DRESSED: FURROW is 9; FURROW it had");
        StoneWed x = told("m1,9;b0,0,0;b0,8,0;g0,1,0,0;g0,9,0,1;");
        int[] stones = {0, 1, 4, 5};
        int[] had = {1, 9, 0, 8};
        for (int k = 0; k < 4; k++) {
            due("stone " + stones[k], x.dress(stones[k]), had[k]);
            due("again", x.dress(stones[k]), 9);
        }
        due("they grind by it", x.days(1), 18 + 18);
        due("a stone that wore", x.dress(0), 8);
        due("a stone that wore", x.dress(4), 8);
    }

    private static void dressRefusals() {
        says("12: RUNNERS as 0 to 3, BEDS as 4 and their number; BAD: no such stone");
        StoneWed all = told(ALL);
        each("all stones", all::dress, 1, 0, 1, 2, 3, 4, 5, 6, 7);
        each("no stone", all::dress, BAD, -1, 8, LEAST, LEAST + 4, GREATEST);
        due("ACTS", all.count(6), 8);
        StoneWed few = told("m1,9;b1,1,1;g1,1,1,9;");
        each("these", few::dress, 1, 0, 4);
        each("no stone", few::dress, BAD, -1, 1, 2, 3, 5, 6, 7, 8);
        StoneWed bed = told(NO_RUNNER);
        each("no runner", bed::dress, BAD, 0, 3);
        due("the bed", bed.dress(4), 1);
    }

    private static void actsKept() {
        says("2: ACTS (24 at most are kept, of more the oldest is forgotten)");
        for (int acts = 22; acts <= 26; acts++) {
            StoneWed x = told(NO_RUNNER);
            x.dress(4);
            for (int act = 1; act < acts; act++) {
                x.days(1);
            }
            int kept = Math.min(acts, 24);
            due(acts + " ACTS", x.count(6), kept);
            for (int left = kept - 1; left >= 0; left--) {
                due("undone", x.undo(), left);
            }
            due("none", x.undo(), STATE);
            due("of " + acts + " the first is undone, or forgotten", x.bed(0, 1), acts <= 24 ? 1 : 9);
            due("DAY", x.count(3), acts <= 24 ? 0 : acts - 25);
        }
        StoneWed x = told(NO_RUNNER);
        x.dress(4);
        x.days(24);
        due("by DAYS at once, too", x.count(6), 24);
        for (int left = 23; left >= 0; left--) {
            x.undo();
        }
        due("the first is forgotten", x.bed(0, 1), 9);
    }

    private static void latestFirst() {
        says("2: each can be undone, the latest first; 13: how many can be undone yet");
        StoneWed x = told(TWO);
        x.dress(4);
        x.wed(0, 0);
        x.part(0);
        x.wed(3, 0);
        x.days(2);
        due("a DAY", x.undo(), 4);
        due("DAY", x.count(3), 1);
        due("FLOUR of DAY 0 stays", x.bed(0, 4), 4);
        due("a DAY", x.undo(), 3);
        due("no FLOUR", x.count(4), 0);
        due("FURROW", x.bed(0, 1), 9);
        due("a wedding", x.undo(), 2);
        due("it lies nowhere", x.runner(3, 3), NONE);
        due("a parting", x.undo(), 1);
        due("it lies", x.runner(0, 3), 0);
        due("a new ACT in between", x.dress(0), 4);
        due("how many", x.count(6), 2);
        due("that one is undone", x.undo(), 1);
        due("FURROW", x.runner(0, 1), 4);
        due("a stone dressed", x.undo(), 0);
        due("FURROW", x.bed(0, 1), 5);
        due("as it was", x.days(1), 18);
    }

    private static void longLife() {
        says("An object is used for at most 512 calls: also the 512th");
        StoneWed x = told(NO_RUNNER);
        // The text has 12 bytes, so that its valley() is the 13th call.
        due("call 14", x.dress(4), 1);
        for (int call = 15; call <= 485; call += 2) {
            due("call " + call, x.days(1), 0);
            if (call < 485) {
                due("call " + (call + 1), x.dress(4), 9);
            }
        }
        due("call 486", x.count(6), 24);
        for (int left = 23; left >= 0; left--) {
            due("undone", x.undo(), left);
        }
        due("call 511", x.count(3), 236 - 12);
        due("call 512", x.undo(), STATE);
    }

    private static void noneToUndo() {
        says("13: STATE: none");
        StoneWed x = new StoneWed();
        due("of a new object", x.undo(), STATE);
        tell(x, TWO);
        due("of a new valley", x.undo(), STATE);
        x.dress(0);
        x.image(0);
        due("behind an IMAGE", x.undo(), 0);
        due("none", x.undo(), STATE);
        x.dress(0);
        x.restore(0);
        due("behind a restoring", x.undo(), STATE);
        due("FURROW as the IMAGE has it", x.runner(0, 1), 9);
        x.dress(1);
        tell(x, TWO);
        due("behind another valley", x.undo(), STATE);
    }

    private static void runnersAsked() {
        says("14: Of a RUNNER: 0 ROCK, 1 FURROW, 2 TEMPER, 3 the BED (NONE: nowhere), 4 how much it GRINDS now (nowhere: 0)");
        StoneWed x = told(TWO);
        int[][] due = {{3, 4, 4, 0, 7}, {0, 9, 0, NONE, 0}, {9, 3, 9, 1, 11}, {5, 5, 5, NONE, 0}};
        for (int runner = 0; runner < 4; runner++) {
            for (int what = 0; what < 5; what++) {
                due("runner " + runner + ", " + what, x.runner(runner, what), due[runner][what]);
            }
        }
        each("runner", runner -> x.runner(runner, 0), BAD, -1, 4, LEAST, GREATEST);
        each("what", what -> x.runner(0, what), BAD, -1, 5, LEAST, GREATEST);
        due("runner and what", x.runner(4, 5), BAD);
        due("of two there is no third", told("m1,1;b1,1,1;g1,1,1,9;g1,1,1,9;").runner(2, 0), BAD);
        due("of none there is no first", told(NO_RUNNER).runner(0, 0), BAD);
    }

    private static void bedsAsked() {
        says("15: Of a BED: 0 ROCK, 1 FURROW, 2 TEMPER, 3 which RUNNER lies on it (NONE), 4 FLOUR");
        StoneWed x = told(TWO);
        x.part(0);
        x.days(1);
        int[][] due = {{1, 5, 2, NONE, 0}, {9, 6, 9, 2, 11}};
        for (int bed = 0; bed < 2; bed++) {
            for (int what = 0; what < 5; what++) {
                due("bed " + bed + ", " + what, x.bed(bed, what), due[bed][what]);
            }
        }
        each("bed", bed -> x.bed(bed, 0), BAD, -1, 2, 3, 4, LEAST, GREATEST);
        each("what", what -> x.bed(0, what), BAD, -1, 5, LEAST, GREATEST);
        StoneWed all = told(ALL);
        due("the last bed", all.bed(3, 1), 1);
        due("none behind it", all.bed(4, 1), BAD);
    }

    private static void grindsAsked() {
        says("16: How much a RUNNER would GRIND on a BED today. BAD");
        StoneWed x = told(TWO);
        due("where it lies", x.grinds(2, 1), 11);
        due("where another one lies", x.grinds(2, 0), 0);
        due("one that lies nowhere", x.grinds(1, 0), 26);
        each("runner", runner -> x.grinds(runner, 0), BAD, -1, 4, LEAST, GREATEST);
        each("bed", bed -> x.grinds(0, bed), BAD, -1, 2, LEAST, GREATEST);
        due("the last of all", told(ALL).grinds(3, 3), 2);
        due("no runner", told(NO_RUNNER).grinds(0, 0), BAD);
        due("nothing changes", x.count(6) + x.count(5), 2);
    }
}
