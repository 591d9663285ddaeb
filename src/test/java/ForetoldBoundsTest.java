import java.util.function.IntUnaryOperator;

/** What is FORETOLD, and IMAGES, promises 17 to 28: for each sentence that names a bound. */
public final class ForetoldBoundsTest extends Due {
    // LASTS 2, PEACE 3; the gritty runner lies on bed 0, the one that sparks on bed 1.
    private static final String TWO = "m2,3;b1,5,2;b9,8,9;g3,4,4,0;f0,9,0,9;s9,3,9,1;o5,5,5,9;";
    private static final String NO_RUNNER = "m9,9;b0,1,0;b0,2,0;";
    // ROCKS let each runner GRIND 2 on one bed, and nothing on the others: the last bed for the first runner.
    private static final String CROSSED =
            "m9,9;b0,1,0;b3,1,0;b6,1,0;b9,1,0;g9,1,0,0;g6,1,0,1;g3,1,0,2;g0,1,0,3;";
    // They GRIND 1, 2, 3, 4.
    private static final String ONE_TO_FOUR =
            "m9,9;b0,1,0;b0,2,0;b0,3,0;b0,4,0;g0,0,0,0;g0,0,0,1;g0,0,0,2;g0,0,0,3;";

    public static void main(String[] args) {
        noValley();
        sixtyDays();
        beyondTheLastDay();
        flourOfBeds();
        blocksWhereItLies();
        blocksTheOther();
        blocksBoth();
        blocksNothing();
        blocksCounted();
        stableMoreThanNothing();
        stableLess();
        stableFirst();
        stableOverAndOver();
        stableRefusals();
        mostOnEach();
        mostFirst();
        mostOfAll();
        mostOfDays();
        mostOfWhom();
        movedFewest();
        movedNowhere();
        movedFirst();
        movedEnough();
        movedOfWhom();
        dressingFirst();
        dressingWhich();
        lainBits();
        lainAlone();
        sorts();
        rocks();
        fittedDays();
        fitsRefusals();
        breaksOfAll();
        breaksOfThoseThatLie();
        lowestTerms();
        breaksRefusals();
        seeds();
        dressedByDraws();
        drawsOfMany();
        drawsBeyondInts();
        drawsOfNoRunners();
        imagesKept();
        imageRefusals();
        restored();
        end();
    }

    private static StoneWed atDay(String text, int day) {
        StoneWed x = told(text);
        for (int passed = 0; passed < day; passed += 24) {
            x.days(Math.min(24, day - passed));
        }
        return x;
    }

    private static StoneWed row(StoneWed x, int... items) {
        x.row(0, 2, items.length);
        for (int i = 0; i < items.length; i++) {
            x.set(0, i, items[i]);
        }
        return x;
    }

    private static void noValley() {
        says("17 to 28: no VALLEY: STATE (ahead of BAD), or BAD: no such one");
        StoneWed x = new StoneWed();
        each("flour", d -> x.flour(0, d), BAD, 0, 60, -1);
        each("flourOfAll", x::flourOfAll, STATE, 0, 60, -1, 61, LEAST, GREATEST);
        each("blocks", x::blocks, STATE, 0, 1, -1, 2, LEAST, GREATEST);
        each("stable", x::stable, BAD, 0, 3, -1);
        each("most, d", d -> x.most(d, 0), STATE, 0, -1, 61);
        each("most, k", k -> x.most(1, k), STATE, -1, -2, 4, LEAST, GREATEST);
        each("moved, d", d -> x.moved(d, 0, 0), STATE, 0, -1, 61);
        each("moved, q", q -> x.moved(1, q, 0), STATE, 0, -1, 1000);
        each("moved, k", k -> x.moved(1, 0, k), STATE, -1, -2, 4);
        each("dressing, d", d -> x.dressing(d, 0), STATE, 0, -1, 61);
        each("dressing, what", what -> x.dressing(1, what), STATE, 0, 1, -1, 2);
        each("fits", bed -> x.fits(bed, 0, 0, 1, 0), BAD, 0, 3, -1);
        each("breaks, q", q -> x.breaks(q, 1, 0), STATE, 0, -1, 1000);
        each("breaks, c", c -> x.breaks(1, c, 0), STATE, 0, 10, -1, 11);
        each("breaks, what", what -> x.breaks(1, 1, what), STATE, 0, 1, -1, 2);
        each("drawn, n", n -> x.drawn(n, 1, 0), STATE, 0, -1, 61);
        each("drawn, seed", seed -> x.drawn(1, seed, 0), STATE, 1, 0, 1000000);
        each("drawn, what", what -> x.drawn(1, 1, what), STATE, 0, 1, -1, 2);
        each("image", x::image, STATE, 0, 1);
        each("image, BAD ahead of STATE", x::image, BAD, -1, 2, LEAST, GREATEST);
        each("restore", x::restore, STATE, 0, 1);
        each("restore, BAD ahead of STATE", x::restore, BAD, -1, 2, LEAST, GREATEST);
    }

    private static void sixtyDays() {
        says("3: d DAYS from now (0 to 60)");
        // From DAY 1 on a widow on a bed without FURROW grinds 3 on DAYS 3, 6, .. 60: the last of 60 DAYS, too.
        StoneWed x = atDay("m9,9;b0,0,0;w0,0,0,0;", 1);
        int[] d = {0, 1, 2, 3, 59, 60};
        int[] due = {0, 0, 0, 3, 57, 60};
        for (int k = 0; k < d.length; k++) {
            due("flour " + d[k], x.flour(0, d[k]), 3 + due[k]);
            due("flourOfAll " + d[k], x.flourOfAll(d[k]), 3 + due[k]);
            due("most " + d[k], x.most(d[k], -1), due[k]);
            due("moved " + d[k], x.moved(d[k], due[k], -1), 0);
            due("moved, 1 more, " + d[k], x.moved(d[k], due[k] + 1, -1), NONE);
        }
        // The bed, of FURROW 9 then, lets it grind 4 to DAY 18, 3 to DAY 36, 2 to DAY 54, 1 to DAY 60, besides.
        due("dressing 0", x.dressing(0, 1), 0);
        due("dressing 1", x.dressing(1, 1), 4);
        due("dressing 60", x.dressing(60, 1), 60 + 18 * 4 + 18 * 3 + 18 * 2 + 6);
        due("dressing 59", x.dressing(59, 1), 57 + 18 * 4 + 18 * 3 + 18 * 2 + 5);
        int[] wrong = {-1, 61, LEAST, GREATEST};
        each("flour", n -> x.flour(0, n), BAD, wrong);
        each("flourOfAll", x::flourOfAll, BAD, wrong);
        each("most", n -> x.most(n, -1), BAD, wrong);
        each("moved", n -> x.moved(n, 0, -1), BAD, wrong);
        each("dressing", n -> x.dressing(n, 0), BAD, wrong);
        each("drawn", n -> x.drawn(n, 1, 0), BAD, wrong);
    }

    private static void beyondTheLastDay() {
        says("3: FORETOLD, d DAYS from now: from DAY 999, too");
        StoneWed x = atDay("m9,9;b0,0,0;w0,0,0,0;", 999);
        due("what is there", x.flourOfAll(0), 999);
        due("DAY 999 is divided by 3", x.flourOfAll(1), 999 + 3);
        due("60 DAYS", x.flour(0, 60), 999 + 60);
        due("most", x.most(60, -1), 60);
        due("drawn, none is dressed", x.drawn(1, 2, 0), 3);
        due("DAY", x.count(3), 999);
    }

    private static void flourOfBeds() {
        says("17: FLOUR of a BED; 18: FLOUR of all");
        StoneWed x = told(TWO);
        each("no bed", bed -> x.flour(bed, 0), BAD, -1, 2, 4, LEAST, GREATEST);
        due("no bed and no d", x.flour(2, 61), BAD);
        due("bed 0, four DAYS", x.flour(0, 4), 7 + 5 + 5 + 3);
        due("bed 1, four DAYS", x.flour(1, 4), 11 + 8 + 7 + 4);
        due("all", x.flourOfAll(4), 50);
        due("four beds", told(ONE_TO_FOUR).flourOfAll(1), 10);
        due("the last bed", told(ONE_TO_FOUR).flour(3, 1), 4);
        due("none lies", told(NO_RUNNER).flourOfAll(60), 0);
    }

    private static void dueBlocks(String text, int many, int first) {
        StoneWed x = told(text);
        due(text + ", how many", x.blocks(0), many);
        due(text + ", the first", x.blocks(1), first);
    }

    private static void blocksWhereItLies() {
        says("3: BLOCK, if it would GRIND there more today than where it lies");
        dueBlocks("m9,9;b0,4,0;b0,3,0;g0,1,0,0;", 0, NONE);
        dueBlocks("m9,9;b0,4,0;b0,4,0;g0,1,0,0;", 0, NONE);
        dueBlocks("m9,9;b0,4,0;b0,5,0;g0,1,0,0;", 1, 1);
    }

    private static void blocksTheOther() {
        says("3: and more than the one that lies on it GRINDS");
        dueBlocks("m9,9;b0,4,0;g0,2,0,0;g0,1,0,9;", 0, NONE);
        dueBlocks("m9,9;b0,4,0;g0,2,0,0;g0,2,0,9;", 0, NONE);
        dueBlocks("m9,9;b0,4,0;g0,2,0,0;g0,3,0,9;", 1, 10);
    }

    private static void blocksBoth() {
        says("3: more than where it lies, and more than the one that lies on it");
        dueBlocks("m9,9;b0,4,0;b0,3,0;g0,2,0,0;g0,3,0,1;", 1, 10);
        dueBlocks("m9,9;b0,4,0;b0,4,0;g0,2,0,0;g0,3,0,1;", 0, NONE);
        dueBlocks("m9,9;b0,4,0;b0,3,0;g0,2,0,0;g0,2,0,1;", 0, NONE);
    }

    private static void blocksNothing() {
        says("3: (nothing, if nowhere); (nothing, if none lies there)");
        dueBlocks("m9,9;b0,0,0;g0,0,0,9;", 0, NONE);
        dueBlocks("m9,9;b0,0,0;g0,1,0,9;", 1, 0);
        dueBlocks("m9,9;b9,0,0;b0,0,0;g0,0,0,0;", 0, NONE);
        dueBlocks("m9,9;b9,0,0;b0,0,0;g0,1,0,0;", 1, 1);
        StoneWed x = told("m9,9;b0,0,0;w0,0,0,9;");
        due("a widow on DAY 0", x.blocks(0), 1);
        x.days(1);
        due("on DAY 1", x.blocks(0), 0);
        due("on DAY 1", x.blocks(1), NONE);
    }

    private static void blocksCounted() {
        says("19: BLOCK: how many (what = 0), the first (1; NONE)");
        dueBlocks("m9,9;b0,1,0;b0,1,0;b0,1,0;b0,1,0;g0,1,0,9;g0,1,0,9;g0,1,0,9;g0,1,0,9;", 16, 0);
        dueBlocks("m9,9;b0,0,0;b0,0,0;b0,0,0;b9,0,0;g0,0,0,9;g0,0,0,9;g0,0,0,9;g9,1,0,9;", 1, 33);
        dueBlocks("m9,9;b0,0,0;b0,0,0;b0,0,0;b9,0,0;g9,1,0,9;g0,1,0,9;", 4, 3);
        dueBlocks(NO_RUNNER, 0, NONE);
        StoneWed x = told(TWO);
        each("what", x::blocks, BAD, -1, 2, LEAST, GREATEST);
    }

    private static void dueStable(String text, int... beds) {
        StoneWed x = told(text);
        for (int k = 0; k < beds.length; k++) {
            due(text + ", runner " + k, x.stable(k), beds[k]);
        }
    }

    private static void stableMoreThanNothing() {
        says("3: STABLE: a BED on which it would GRIND more than nothing; NONE: nowhere");
        dueStable("m9,9;b0,0,0;g0,0,0,9;", NONE);
        dueStable("m9,9;b0,0,0;g0,0,0,0;", NONE);
        dueStable("m9,9;b0,0,0;g0,1,0,9;", 0);
        dueStable("m9,9;b0,0,0;w0,0,0,9;", 0);
        StoneWed x = told("m9,9;b0,0,0;w0,0,0,9;");
        x.days(1);
        due("a widow on DAY 1", x.stable(0), NONE);
    }

    private static void stableLess() {
        says("3: WED there, if none lies there, or one that GRINDS less");
        dueStable("m9,9;b0,4,0;g0,2,0,9;g0,1,0,9;", 0, NONE);
        dueStable("m9,9;b0,4,0;g0,2,0,9;g0,2,0,9;", 0, NONE);
        dueStable("m9,9;b0,4,0;g0,2,0,9;g0,3,0,9;", NONE, 0);
    }

    private static void stableFirst() {
        says("3: the RUNNER with the least number; the one on which it would GRIND most, of several the first");
        dueStable("m9,9;b0,3,0;b0,4,0;b0,4,0;g0,1,0,9;", 1);
        dueStable("m9,9;b0,4,0;b0,4,0;b0,4,0;g0,1,0,9;g0,1,0,9;", 0, 1);
        // Runner 0 gives way to runner 1, and comes ahead of runner 2 then, that grinds as much on bed 1.
        dueStable("m9,9;b0,4,0;b9,9,0;g0,4,0,9;g0,5,0,9;o0,0,0,9;", 1, 0, NONE);
    }

    private static void stableOverAndOver() {
        says("3: over and over; has a BED left that it has not asked yet; all lie nowhere");
        String runners = "g0,1,0,9;g0,2,0,9;g0,3,0,9;g0,4,0,9;";
        dueStable("m9,9;b0,4,0;b0,3,0;b0,2,0;b0,1,0;" + runners, 3, 2, 1, 0);
        dueStable("m9,9;b0,4,0;b0,3,0;b0,2,0;" + runners, NONE, 2, 1, 0);
        dueStable("m9,9;b0,4,0;" + runners, NONE, NONE, NONE, 0);
        dueStable("m9,9;b0,4,0;b0,3,0;b0,2,0;b0,1,0;g0,1,0,0;g0,2,0,1;g0,3,0,2;g0,4,0,3;", 3, 2, 1, 0);
        dueStable("m9,9;b0,1,0;b0,1,0;b0,1,0;b0,1,0;g0,1,0,9;g0,1,0,9;g0,1,0,9;g0,1,0,9;", 0, 1, 2, 3);
    }

    private static void stableRefusals() {
        says("20: STABLE; BAD: no such RUNNER");
        StoneWed x = told(TWO);
        each("runner", x::stable, BAD, -1, 4, LEAST, GREATEST);
        due("the last one", x.stable(3), NONE);
        each("of one", told("m9,9;b0,1,0;g0,1,0,9;")::stable, BAD, 1, 2, 3);
        each("of none", told(NO_RUNNER)::stable, BAD, 0, 3);
        due("nothing changes", x.runner(0, 3), 0);
    }

    private static void dueMost(StoneWed x, int d, int most, int... beds) {
        due("most of " + d + " DAYS", x.most(d, -1), most);
        for (int k = 0; k < beds.length; k++) {
            due("most of " + d + " DAYS, runner " + k, x.most(d, k), beds[k]);
        }
    }

    private static void mostOnEach() {
        says("3: weddings (each RUNNER on a BED, or nowhere; one at most on each)");
        dueMost(told("m9,9;b0,4,0;g0,1,0,9;g0,2,0,9;g0,3,0,9;g0,2,0,9;"), 1, 7, NONE, NONE, 0, NONE);
        dueMost(told("m9,9;b0,1,0;b0,2,0;b0,4,0;b0,3,0;g0,1,0,9;"), 1, 5, 2, NONE);
        dueMost(told(CROSSED), 1, 8, 3, 2, 1, 0);
        dueMost(told(NO_RUNNER), 60, 0, NONE, NONE, NONE, NONE);
    }

    private static void mostFirst() {
        says("3: of several the first (RUNNER by RUNNER, BEDS 0 on, then nowhere)");
        dueMost(told("m9,9;b0,4,0;g0,1,0,9;g0,3,0,9;g0,3,0,9;g0,2,0,9;"), 1, 7, NONE, 0, NONE, NONE);
        dueMost(told("m9,9;b0,1,0;b0,3,0;b0,3,0;b0,2,0;g0,1,0,9;"), 1, 4, 1);
        dueMost(told("m9,9;b9,0,0;b9,0,0;g0,0,0,9;g0,0,0,9;g0,0,0,9;"), 1, 0, 0, 1, NONE);
        dueMost(told("m9,9;b9,0,0;b9,0,0;g0,0,0,1;g0,0,0,0;g0,0,0,9;"), 1, 0, 0, 1, NONE);
        dueMost(told("m9,9;b0,0,0;g0,0,0,0;g0,1,0,9;"), 1, 1, NONE, 0);
        dueMost(told("m9,9;b0,0,0;b0,0,0;g0,1,0,9;g0,1,0,9;"), 1, 2, 0, 1);
        dueMost(told(TWO), 0, 0, 0, 1, NONE, NONE);
    }

    private static void mostOfAll() {
        says("3: by which most FLOUR is GROUND: of all together");
        // 10 and 16, were each to take its best in turn; 9 and 18 are more.
        dueMost(told("m9,9;b0,5,0;b1,5,0;g0,5,0,9;f0,4,0,9;"), 1, 27, 1, 0);
    }

    private static void mostOfDays() {
        says("3: from now on, in d DAYS");
        StoneWed x = told("m1,9;b0,4,0;s0,4,0,9;g0,4,0,9;");
        dueMost(x, 0, 0, 0, NONE);
        dueMost(x, 1, 8, 0, NONE);
        dueMost(x, 2, 8 + 6, NONE, 0);
        StoneWed widow = told("m9,9;b0,0,0;w0,0,0,9;");
        dueMost(widow, 3, 3, 0);
        widow.days(1);
        dueMost(widow, 2, 0, 0);
        dueMost(widow, 3, 3, 0);
    }

    private static void mostOfWhom() {
        says("21: the BED of the k-th (0 on; NONE: nowhere, no such RUNNER). BAD: k not -1 to 3, too");
        StoneWed x = told(CROSSED);
        each("k", k -> x.most(1, k), BAD, -2, 4, LEAST, GREATEST);
        each("k of few", k -> told("m9,9;b0,1,0;g0,1,0,9;").most(1, k), NONE, 1, 2, 3);
        due("the only one", told("m9,9;b0,1,0;g0,1,0,9;").most(1, 0), 0);
        // None is left from the valley ahead of it.
        tell(x, "m9,9;b0,1,0;g0,1,0,9;");
        each("k of few", k -> x.most(1, k), NONE, 1, 2, 3);
        due("d and k", x.most(61, 4), BAD);
    }

    private static void dueMoved(StoneWed x, int d, int q, int many, int... beds) {
        due("moved for " + q, x.moved(d, q, -1), many);
        for (int k = 0; k < beds.length; k++) {
            due("moved for " + q + ", runner " + k, x.moved(d, q, k), beds[k]);
        }
    }

    private static void movedFewest() {
        says("3: the fewest RUNNERS whose BED is to be another one so that q, or more, is GROUND");
        StoneWed x = told(CROSSED);
        dueMoved(x, 1, 0, 0, 0, 1, 2, 3);
        dueMoved(x, 1, 1, 2, 0, 2, 1, 3);
        dueMoved(x, 1, 4, 2, 0, 2, 1, 3);
        dueMoved(x, 1, 5, 4, 3, 2, 1, 0);
        dueMoved(x, 1, 8, 4, 3, 2, 1, 0);
        dueMoved(x, 1, 9, NONE, NONE, NONE, NONE, NONE);
        StoneWed one = told("m9,9;b0,4,0;b0,9,0;g0,1,0,0;");
        dueMoved(one, 1, 5, 0, 0);
        dueMoved(one, 1, 6, 1, 1);
        dueMoved(one, 1, 10, 1, 1);
        dueMoved(one, 1, 11, NONE, NONE);
    }

    private static void movedNowhere() {
        says("3: (or nowhere, or not nowhere)");
        StoneWed x = told("m9,9;b0,4,0;g0,1,0,0;g0,3,0,9;");
        dueMoved(x, 1, 5, 0, 0, NONE);
        dueMoved(x, 1, 6, 2, NONE, 0);
        dueMoved(x, 1, 7, 2, NONE, 0);
        dueMoved(x, 1, 8, NONE, NONE, NONE);
    }

    private static void movedFirst() {
        says("3: in the first such weddings with so few (likewise)");
        StoneWed x = told("m9,9;b0,4,0;b0,4,0;g0,1,0,9;g0,1,0,9;");
        dueMoved(x, 1, 0, 0, NONE, NONE);
        dueMoved(x, 1, 1, 1, 0, NONE);
        dueMoved(x, 1, 5, 1, 0, NONE);
        dueMoved(x, 1, 6, 2, 0, 1);
        dueMoved(x, 1, 10, 2, 0, 1);
        dueMoved(x, 1, 11, NONE, NONE, NONE);
    }

    private static void movedEnough() {
        says("3: MOVED for d, q (0 to 999)");
        // 36 on DAY 0, and 4 less on each DAY behind one that 9 divides: 1264 in 60 DAYS.
        StoneWed x = told("m9,9;b0,9,0;f0,9,0,9;");
        due("60 DAYS", x.most(60, -1), 1264);
        dueMoved(x, 60, 999, 1, 0);
        dueMoved(x, 20, 999, NONE, NONE);
        dueMoved(x, 60, 0, 0, NONE);
        each("q", q -> x.moved(60, q, -1), BAD, -1, 1000, 1264, LEAST, GREATEST);
        dueMoved(told(NO_RUNNER), 60, 0, 0, NONE, NONE, NONE, NONE);
        dueMoved(told(NO_RUNNER), 60, 1, NONE, NONE, NONE, NONE, NONE);
        dueMoved(told(TWO), 0, 0, 0, 0, NONE, 1, NONE);
        dueMoved(told(TWO), 0, 1, NONE, NONE, NONE, NONE, NONE);
    }

    private static void movedOfWhom() {
        says("22: the BED of the k-th (0 on; NONE: nowhere, no such RUNNER). BAD: k not -1 to 3, too");
        StoneWed x = told("m9,9;b0,1,0;g0,1,0,0;");
        due("the only one", x.moved(1, 2, 0), 0);
        each("k of few", k -> x.moved(1, 2, k), NONE, 1, 2, 3);
        each("k", k -> x.moved(1, 2, k), BAD, -2, 4, LEAST, GREATEST);
        each("k, if there is none", k -> x.moved(1, 3, k), NONE, -1, 0, 1, 2, 3);
        each("k, if there is none", k -> x.moved(1, 3, k), BAD, -2, 4);
        due("d, q and k", x.moved(61, 1000, 4), BAD);
    }

    private static void dueDressing(String text, int d, int stone, int much) {
        StoneWed x = told(text);
        due(text + ", which", x.dressing(d, 0), stone);
        due(text + ", how much", x.dressing(d, 1), much);
    }

    private static void dressingFirst() {
        says("3: DRESSING: of several the first (runners ahead of beds)");
        dueDressing(TWO, 0, 0, 0);
        dueDressing("m9,9;b0,1,0;g0,1,0,0;", 1, 0, 10);
        dueDressing("m9,9;b0,1,0;b0,1,0;g0,1,0,0;g0,1,0,1;", 1, 0, 12);
        dueDressing("m9,9;b0,1,0;g0,1,0,9;g0,1,0,0;", 1, 1, 10);
        dueDressing("m9,9;b0,1,0;g0,1,0,9;", 1, 0, 0);
        dueDressing("m9,9;b0,9,0;g0,9,0,0;", 1, 0, 18);
        dueDressing("m9,9;b0,1,0;b0,1,0;o0,1,0,0;o0,1,0,1;", 1, 4, 4);
        dueDressing(NO_RUNNER, 60, 4, 0);
    }

    private static void dressingWhich() {
        says("3: the stone (RUNNERS as 0 to 3, BEDS as 4 and their number)");
        dueDressing("m9,9;b0,9,0;b0,9,0;b0,9,0;b0,1,0;o0,0,0,0;o0,0,0,1;o0,0,0,2;o0,0,0,3;", 1, 7, 16);
        dueDressing("m9,9;b0,9,0;b0,9,0;b0,9,0;b0,9,0;g0,9,0,0;g0,9,0,1;g0,9,0,2;g0,1,0,3;", 1, 3, 72);
        dueDressing("m9,9;b0,1,0;g0,2,0,0;", 1, 4, 11);
        dueDressing("m9,9;b0,2,0;g0,1,0,0;", 1, 0, 11);
        StoneWed x = told(TWO);
        each("what", what -> x.dressing(1, what), BAD, -1, 2, LEAST, GREATEST);
        due("d and what", x.dressing(61, 2), BAD);
        due("nothing is dressed", x.dressing(1, 0) + x.runner(2, 1), 2 + 3);
    }

    private static void dueFits(StoneWed x, int what, int item, int bits) {
        x.set(0, 0, item);
        due("row of " + item + ", what " + what, x.fits(0, 0, 0, 1, what), bits);
    }

    private static void lainBits() {
        says("3: LAIN: RUNNERS (bits 0 to 3, of those there are; 4: none)");
        StoneWed x = row(told("m1,9;b0,0,0;g0,1,0,9;g0,2,0,9;g0,3,0,9;g0,4,0,9;"), 0);
        int[] bits = {16, 1, 2, 4, 8, 0};
        for (int item = 0; item < bits.length; item++) {
            dueFits(x, 0, item, bits[item]);
        }
        each("no such number", item -> x.set(0, 0, item) == item ? x.fits(0, 0, 0, 1, 0) : item, 0,
                -1, 256, 257, 65536, LEAST, GREATEST);
        dueFits(row(told("m9,9;b0,0,0;g0,1,0,9;g0,1,0,9;g0,1,0,9;g0,1,0,9;"), 0), 0, 1, 15);
        dueFits(row(told("m9,9;b0,0,0;g0,0,0,9;g0,0,0,9;g0,0,0,9;g0,0,0,9;"), 0), 0, 0, 31);
        dueFits(row(told("m9,9;b0,0,0;g0,0,0,9;g0,0,0,9;"), 0), 0, 0, 16 + 3);
        dueFits(row(told(NO_RUNNER), 0), 0, 0, 16);
        dueFits(row(told(NO_RUNNER), 0), 0, 1, 0);
    }

    private static void lainAlone() {
        says("3: one of which lies on it alone by which it is so (where it lies else does not matter)");
        StoneWed x = row(told("m1,9;b0,0,0;b0,5,0;g0,1,0,0;g0,2,0,1;g0,3,0,9;"), 0);
        due("another one lies there", x.set(0, 0, 2) + x.fits(0, 0, 0, 1, 0), 2 + 2);
        due("it lies elsewhere, none there", x.set(0, 0, 6) + x.fits(1, 0, 0, 1, 0), 6 + 1);
        due("it lies nowhere", x.set(0, 0, 8) + x.fits(1, 0, 0, 1, 0), 8 + 4);
        due("none, though one lies there", x.set(0, 0, 0) + x.fits(0, 0, 0, 1, 0), 16);
        due("the last bed", told(ONE_TO_FOUR).fits(3, 0, 0, 1, 0), NULL);
        due("the last bed", row(told(ONE_TO_FOUR), 4).fits(3, 0, 0, 1, 0), 15);
    }

    private static void sorts() {
        says("3: SORTS: KINDS (bits 1 to 5) of the RUNNER that lies on it by which it is so; 0: none lies on it");
        StoneWed x = row(told("m9,9;b0,8,0;b0,8,0;g4,0,0,0;"), 0, 0);
        dueFits(x, 1, 4, 2 + 8 + 16);
        dueFits(x, 1, 8, 4);
        dueFits(x, 1, 7, 32);
        dueFits(x, 1, 5, 0);
        dueFits(x, 1, -4, 0);
        x.set(0, 0, 4);
        x.set(0, 1, 3);
        due("two DAYS", x.fits(0, 0, 0, 2, 1), 2 + 16);
        x.set(0, 1, 2);
        due("two DAYS of one that sparks", x.fits(0, 0, 0, 2, 1), 8);
        x.set(0, 0, 0);
        due("none lies there, nothing is GROUND", x.fits(1, 0, 0, 1, 1), 0);
        StoneWed idle = row(told("m9,9;b9,1,0;g0,1,0,0;"), 0);
        dueFits(idle, 1, 0, 30);
        idle.days(1);
        dueFits(idle, 1, 0, 62);
    }

    private static void rocks() {
        says("3: ROCKS: its ROCK (0 to 9, bits) by which it is so; 0 likewise");
        StoneWed x = row(told("m9,9;b5,4,0;b5,4,0;g5,1,0,0;"), 0);
        int[] bits = {1, 2 + 512, 4 + 256, 8 + 128, 16 + 64, 32, 0};
        for (int item = 0; item < bits.length; item++) {
            dueFits(x, 2, item, bits[item]);
        }
        x.set(0, 0, 0);
        due("none lies there, nothing is GROUND", x.fits(1, 0, 0, 1, 2), 0);
        dueFits(row(told("m9,9;b9,4,0;g9,1,0,0;"), 0), 2, 5, 512);
        dueFits(row(told("m9,9;b0,4,0;g9,1,0,0;"), 0), 2, 5, 1);
        dueFits(row(told("m9,9;b0,4,0;o9,1,0,0;"), 0), 2, 2, 1023);
    }

    private static void fittedDays() {
        says("3: A row tells how much is GROUND on a BED on each of n DAYS (1 to 16) from this one on");
        StoneWed x = row(told("m9,9;b0,0,0;w0,0,0,0;"), 3, 0, 0, 3, 0, 0, 3, 0, 0, 3, 0, 0, 3, 0, 0, 4, 0);
        for (int n = 1; n <= 15; n++) {
            due("so many DAYS: " + n, x.fits(0, 0, 0, n, 0), 1);
        }
        due("the 16th is not so", x.fits(0, 0, 0, 16, 0), 0);
        due("from 3 on", x.fits(0, 0, 3, 12, 0), 1);
        due("from 3 on, with that one", x.fits(0, 0, 3, 13, 0), 0);
        x.set(0, 15, 3);
        due("it is so", x.fits(0, 0, 0, 16, 0), 1);
        due("from 1 on", x.fits(0, 0, 1, 1, 0), 16);
        x.days(1);
        due("DAY 1", x.fits(0, 0, 0, 1, 0), 0);
        due("DAY 1", x.fits(0, 0, 1, 15, 0), 1);
        due("DAY 1, SORTS", x.fits(0, 0, 1, 15, 1), 32);
        due("DAY 1, ROCKS", x.fits(0, 0, 1, 15, 2), 1023);
        each("n", n -> x.fits(0, 0, 0, n, 0), BAD, 0, -1, 17, 40, LEAST, GREATEST);
    }

    private static void fitsRefusals() {
        says("24: BAD: BED, ROW, n, what; NULL; PLACE: the first that fits");
        StoneWed x = row(told(TWO), new int[20]);
        each("BED", bed -> x.fits(bed, 0, 0, 1, 0), BAD, -1, 2, LEAST, GREATEST);
        each("ROW", r -> x.fits(0, r, 0, 1, 0), BAD, -1, 8, LEAST, GREATEST);
        each("what", what -> x.fits(0, 0, 0, 1, what), BAD, -1, 3, LEAST, GREATEST);
        due("BED of a missing ROW", x.fits(2, 1, 0, 1, 0), BAD);
        due("n of a missing ROW", x.fits(0, 1, 0, 0, 0), BAD);
        due("what of a missing ROW", x.fits(0, 1, 0, 1, 3), BAD);
        due("n and no such place", x.fits(0, 0, -1, 0, 0), BAD);
        due("what and no such place", x.fits(0, 0, 20, 1, 3), BAD);
        due("BAD leaves the number", x.status(), 0);
        each("a missing ROW, and no such place", i -> x.fits(0, 1, i, 1, 0), NULL, -1, 0, 40);
        due("number", x.status(), 1);
        each("i", i -> x.fits(0, 0, i, 1, 0), PLACE, -1, 20, 40, LEAST, GREATEST);
        each("i of 16", i -> x.fits(0, 0, i, 16, 0), PLACE, -1, 5, LEAST, GREATEST);
        due("number", x.status(), 2);
        // Runner 2 grinds nothing on bed 0, as none does.
        each("i of 16", i -> x.fits(0, 0, i, 16, 0), 16 + 4, 0, 4);
        due("number", x.status(), 0);
        due("the last place", x.fits(0, 0, 19, 1, 0), 16 + 4);
        due("no items", row(told(TWO)).fits(0, 0, 0, 1, 0), PLACE);
    }

    private static void dueBreaks(StoneWed x, int q, int c, int above, int below) {
        due("above, q " + q + ", c " + c, x.breaks(q, c, 0), above);
        due("below, q " + q + ", c " + c, x.breaks(q, c, 1), below);
    }

    private static void breaksOfAll() {
        says("3: BREAKS: by c of 10, each by itself: that q (0 to 999), or more, is GROUND today");
        StoneWed x = told(ONE_TO_FOUR);
        dueBreaks(x, 10, 1, 6561, 10000);
        dueBreaks(x, 10, 9, 1, 10000);
        dueBreaks(x, 1, 1, 9999, 10000);
        dueBreaks(x, 10, 5, 1, 16);
        dueBreaks(x, 9, 5, 1, 8);
        dueBreaks(x, 8, 5, 3, 16);
        dueBreaks(x, 5, 5, 9, 16);
        dueBreaks(x, 11, 5, 0, 1);
        dueBreaks(x, 999, 5, 0, 1);
        dueBreaks(x, 0, 5, 1, 1);
        dueBreaks(x, 10, 0, 1, 1);
        dueBreaks(x, 11, 0, 0, 1);
        dueBreaks(x, 1, 10, 0, 1);
        dueBreaks(x, 0, 10, 1, 1);
    }

    private static void breaksOfThoseThatLie() {
        says("3: BREAKS: each RUNNER that lies on a BED");
        dueBreaks(told("m9,9;b0,1,0;b0,1,0;g0,1,0,0;g0,9,0,9;"), 2, 1, 9, 10);
        dueBreaks(told("m9,9;b0,1,0;b0,1,0;g0,1,0,0;g0,9,0,9;"), 3, 1, 0, 1);
        dueBreaks(told("m9,9;b0,1,0;b9,1,0;g0,1,0,0;g0,1,0,1;"), 2, 1, 9, 10);
        dueBreaks(told("m9,9;b0,1,0;g0,1,0,9;"), 1, 0, 0, 1);
        dueBreaks(told("m9,9;b0,1,0;g0,1,0,9;"), 0, 10, 1, 1);
        dueBreaks(told(NO_RUNNER), 1, 0, 0, 1);
        dueBreaks(told(NO_RUNNER), 0, 10, 1, 1);
        StoneWed widow = told("m9,9;b0,0,0;w0,0,0,0;");
        dueBreaks(widow, 3, 2, 4, 5);
        dueBreaks(widow, 4, 2, 0, 1);
        widow.days(1);
        dueBreaks(widow, 1, 2, 0, 1);
    }

    private static void lowestTerms() {
        says("fractions, told as two numbers in lowest terms (0 is 0 by 1)");
        StoneWed x = told("m9,9;b0,1,0;g0,1,0,0;");
        int[] above = {1, 9, 4, 7, 3, 1, 2, 3, 1, 1, 0};
        int[] below = {1, 10, 5, 10, 5, 2, 5, 10, 5, 10, 1};
        for (int c = 0; c <= 10; c++) {
            dueBreaks(x, 2, c, above[c], below[c]);
            dueBreaks(x, 3, c, 0, 1);
            dueBreaks(x, 0, c, 1, 1);
        }
    }

    private static void breaksRefusals() {
        says("25: BREAKS (c 0 to 10): above (what = 0), below (1). BAD");
        StoneWed x = told(TWO);
        each("q", q -> x.breaks(q, 1, 0), BAD, -1, 1000, LEAST, GREATEST);
        each("c", c -> x.breaks(1, c, 0), BAD, -1, 11, LEAST, GREATEST);
        each("what", what -> x.breaks(1, 1, what), BAD, -1, 2, LEAST, GREATEST);
        due("all", x.breaks(-1, 11, 2), BAD);
    }

    private static void dueDrawn(StoneWed x, int n, int seed, int ground, int furrows) {
        due(n + " DAYS by " + seed, x.drawn(n, seed, 0), ground);
        due(n + " DAYS by " + seed + ", FURROWS", x.drawn(n, seed, 1), furrows);
    }

    private static void seeds() {
        says("26: YEARS by a SEED (1 to 999999): how much (what = 0), FURROWS (1); n DAYS (0 to 60)");
        StoneWed x = told(TWO);
        each("seed", seed -> x.drawn(1, seed, 0), BAD, 0, -1, 1000000, LEAST, GREATEST);
        each("what", what -> x.drawn(1, 1, what), BAD, -1, 2, LEAST, GREATEST);
        due("all", x.drawn(61, 0, 2), BAD);
        // Worked out apart from the program, by another one.
        dueDrawn(x, 0, 1, 0, 34);
        dueDrawn(x, 0, 999999, 0, 34);
        dueDrawn(x, 1, 1, 19, 30);
        dueDrawn(x, 2, 1, 35, 31);
        dueDrawn(x, 59, 1, 919, 39);
        dueDrawn(x, 60, 1, 947, 47);
        dueDrawn(x, 60, 999999, 1046, 36);
        dueDrawn(x, 60, 999998, 883, 34);
        dueDrawn(x, 60, 999997, 856, 34);
    }

    private static void dressedByDraws() {
        says("3: if X by 3 leaves 0, a RUNNER is DRESSED, if it leaves 1, a BED");
        // Times 16807, that 3 does not divide, 3 leaves 0, 1 leaves 1, 2 leaves 2.
        StoneWed x = told("m9,9;b0,1,0;g0,2,0,0;");
        dueDrawn(x, 1, 3, 10, 8 + 0);
        dueDrawn(x, 1, 1, 11, 1 + 8);
        dueDrawn(x, 1, 2, 3, 1 + 0);
        StoneWed none = told("m9,9;b0,1,0;g0,2,0,9;");
        dueDrawn(none, 1, 3, 0, 9 + 1);
        dueDrawn(none, 1, 1, 0, 2 + 9);
        dueDrawn(none, 1, 2, 0, 2 + 1);
    }

    private static void drawsOfMany() {
        says("3: the RUNNER, the BED, that is the rest of X by how many there are");
        StoneWed two = told("m9,9;b0,1,0;b0,2,0;g0,3,0,0;g0,4,0,1;");
        int[] seed = {6, 3, 4, 1, 2};
        int[] ground = {16, 15, 18, 17, 10};
        for (int k = 0; k < 5; k++) {
            due("two of each, by " + seed[k], two.drawn(1, seed[k], 0), ground[k]);
        }
        dueDrawn(two, 2, 1, 17 + 14, 2 + 3 + 0 + 9);
        StoneWed runners = told("m9,9;b0,0,0;b0,0,0;b0,0,0;b0,0,0;g0,1,0,0;g0,2,0,1;g0,3,0,2;g0,4,0,3;");
        int[] runner = {12, 3, 6, 9};
        int[] bed = {4, 7, 10, 1};
        StoneWed beds = told(ONE_TO_FOUR);
        for (int k = 0; k < 4; k++) {
            due("runner " + k + " of four", runners.drawn(1, runner[k], 0), 18 - k);
            due("bed " + k + " of four", beds.drawn(1, bed[k], 0), 18 - k);
        }
    }

    private static void drawsBeyondInts() {
        says("3: the rest of (X times 16807) by 2147483647: X times 16807 is more than an int holds");
        // 999998 gives 1774580857, that leaves 1 by 3 and by 2; 999997 gives 1774564050, that leaves 0 by both.
        StoneWed two = told("m9,9;b0,1,0;b0,2,0;g0,3,0,0;g0,4,0,1;");
        due("999998: bed 1", two.drawn(1, 999998, 0), 17);
        due("999997: runner 0", two.drawn(1, 999997, 0), 16);
        due("999999: none", two.drawn(1, 999999, 0), 10);
        due("127773: the last one that an int holds, runner 1", two.drawn(1, 127773, 0), 15);
        due("127774: the first one beyond, 13971 remains, runner 1", two.drawn(1, 127774, 0), 15);
    }

    private static void drawsOfNoRunners() {
        says("3: (no RUNNERS: none)");
        StoneWed x = told(NO_RUNNER);
        dueDrawn(x, 1, 3, 0, 3);
        dueDrawn(x, 1, 1, 0, 1 + 9);
        dueDrawn(x, 1, 4, 0, 9 + 2);
        dueDrawn(x, 1, 2, 0, 3);
        due("60 DAYS", x.drawn(60, 999999, 0), 0);
    }

    private static void imagesKept() {
        says("27: An IMAGE (0, 1) is kept of the VALLEY: 1");
        StoneWed x = told(TWO);
        IntUnaryOperator day = k -> x.restore(k) + 10 * x.count(3);
        due("image 0", x.image(0), 1);
        due("none was kept", x.restore(1), STATE);
        x.days(1);
        due("image 1", x.image(1), 1);
        due("ACTS stay", x.count(6), 1);
        x.days(1);
        due("the first one", day.applyAsInt(0), 1);
        due("the second one", day.applyAsInt(1), 11);
        due("the first one again", day.applyAsInt(0), 1);
        x.days(5);
        due("in place of the one before", x.image(0), 1);
        due("the new one", day.applyAsInt(0), 51);
        due("the other one", day.applyAsInt(1), 11);
    }

    private static void imageRefusals() {
        says("27: BAD; STATE: no VALLEY; 28: BAD; STATE: none was kept");
        StoneWed x = told(TWO);
        each("image", x::image, BAD, -1, 2, LEAST, GREATEST);
        each("restore", x::restore, BAD, -1, 2, LEAST, GREATEST);
        each("none was kept", x::restore, STATE, 0, 1);
        x.image(1);
        due("none was kept", x.restore(0), STATE);
        due("one was", x.restore(1), 1);
        due("the ACTS stay, of what is refused", x.dress(0) + x.restore(0) - STATE + x.count(6), 4 + 1);
    }

    private static void restored() {
        says("28: The VALLEY is as an IMAGE kept it (no ACT can be undone then): 1");
        StoneWed x = told(TWO);
        x.days(1);
        x.image(0);
        tell(x, "m1,0;b9,9,9;w1,1,1,0;");
        x.days(3);
        due("restored", x.restore(0), 1);
        int[] due = {0, 2, 4, 1, 18, 2, 0, 0};
        for (int what = 0; what < 8; what++) {
            due("count " + what, x.count(what), due[what]);
        }
        due("no ACT", x.undo(), STATE);
        int[][] runners = {{3, 3, 4, 0, 5}, {0, 9, 0, NONE, 0}, {9, 2, 9, 1, 8}, {5, 5, 5, NONE, 0}};
        int[][] beds = {{1, 4, 2, 0, 7}, {9, 6, 9, 2, 11}};
        for (int what = 0; what < 5; what++) {
            for (int k = 0; k < 4; k++) {
                due("runner " + k + ", " + what, x.runner(k, what), runners[k][what]);
            }
            for (int k = 0; k < 2; k++) {
                due("bed " + k + ", " + what, x.bed(k, what), beds[k][what]);
            }
        }
        due("a kind", x.kind(2), 3);
        due("LASTS and PEACE, in two DAYS", x.days(2), 25);
        due("FULL is asked of its DAY", x.days(24) < 0 ? 1 : 0, 0);
    }
}
