/** Promise by promise, with answers that were worked out by hand from the document. */
public final class PromisesTest extends Due {
    // LASTS 2, PEACE 3; of the runners the gritty one lies on bed 0, the one that sparks on bed 1.
    private static final String TEXT =
            "m2,3;b1,5,2;b9,8,9;g3,4,4,0;f0,9,0,9;s9,3,9,1;o5,5,5,9;";

    public static void main(String[] args) {
        newObject();
        rows();
        copies();
        feeding();
        texts();
        faults();
        days();
        worn();
        lastDay();
        acts();
        undoing();
        stones();
        grinding();
        foretold();
        blocking();
        stable();
        most();
        moved();
        dressing();
        fitting();
        fittingRefused();
        breaking();
        drawing();
        images();
        kinds();
        asks();
        counts();
        statuses();
        end();
    }

    private static void newObject() {
        StoneWed x = new StoneWed();
        for (int what = 0; what < 8; what++) {
            due("1: count " + what, x.count(what), 0);
        }
        due("1: fault", x.fault(), 0);
        due("1: status", x.status(), 0);
        due("1: trace", x.trace(0), NONE);
        due("1: days", x.days(0), STATE);
        due("1: flourOfAll", x.flourOfAll(-1), STATE);
        due("1: most", x.most(-1, 7), STATE);
        due("1: moved", x.moved(-1, -1, 7), STATE);
        due("1: dressing", x.dressing(-1, 7), STATE);
        due("1: blocks", x.blocks(7), STATE);
        due("1: breaks", x.breaks(-1, 11, 7), STATE);
        due("1: drawn", x.drawn(-1, 0, 7), STATE);
        due("1: image", x.image(0), STATE);
        due("1: image", x.image(2), BAD);
        due("1: restore", x.restore(1), STATE);
        due("1: undo", x.undo(), STATE);
        due("1: stable", x.stable(0), BAD);
        due("1: fits", x.fits(0, 0, 0, 1, 0), BAD);
    }

    private static void rows() {
        StoneWed x = new StoneWed();
        due("2: row", x.row(7, 2, 40), 40);
        due("2: row 8", x.row(8, 2, 1), BAD);
        due("2: row -1", x.row(-1, 2, 1), BAD);
        due("2: lane 3", x.row(0, 3, 1), BAD);
        due("2: lane -1", x.row(0, -1, 1), BAD);
        due("2: n 41", x.row(0, 0, 41), BAD);
        due("2: BAD ahead of SIZE", x.row(0, 3, -1), BAD);
        due("2: n -1", x.row(7, 0, -1), SIZE);
        due("2: what is found changes nothing", x.set(7, 39, 70000), 70000);
        due("2: no items", x.row(6, 0, 0), 0);
        due("3: place in a row without items", x.set(6, 0, 1), PLACE);
        due("3: place 40", x.set(7, 40, 1), PLACE);
        due("3: place -1", x.set(7, -1, 1), PLACE);
        due("3: missing", x.set(0, 0, 1), NULL);
        due("3: row 8", x.set(8, 0, 1), BAD);
        x.row(0, 0, 2);
        x.row(1, 1, 2);
        due("3: byte", x.set(0, 0, 128), -128);
        due("3: byte", x.set(0, 1, -129), 127);
        due("3: short", x.set(1, 0, 32768), -32768);
        due("3: int", x.set(7, 0, Integer.MIN_VALUE), Integer.MIN_VALUE);
        due("5: drop", x.drop(7), 40);
        due("5: drop again", x.drop(7), NULL);
        due("5: drop 8", x.drop(8), BAD);
        due("5: drop one without items", x.drop(6), 0);
        due("5: rows", x.count(0), 2);
    }

    private static void copies() {
        StoneWed x = told(TEXT);
        x.row(0, 0, 4);
        x.row(1, 0, 3);
        x.row(2, 1, 4);
        due("4: row 8", x.copy(0, 0, 8, 0, 1), BAD);
        due("4: row -1", x.copy(-1, 0, 0, 0, 1), BAD);
        due("4: BAD ahead of NULL", x.copy(3, 0, 8, 0, 1), BAD);
        due("4: missing", x.copy(0, 0, 3, 0, 1), NULL);
        due("4: NULL ahead of STORE and PLACE", x.copy(3, -1, 2, 0, 1), NULL);
        due("4: STORE ahead of PLACE", x.copy(0, -1, 2, 0, 1), STORE);
        due("4: STORE, of no items, too", x.copy(0, 0, 2, 0, 0), STORE);
        due("4: i -1", x.copy(0, -1, 1, 0, 1), PLACE);
        due("4: j -1", x.copy(0, 0, 1, -1, 1), PLACE);
        due("4: n -1", x.copy(0, 1, 1, 1, -1), PLACE);
        due("4: beyond the end of b", x.copy(0, 0, 1, 0, 4), PLACE);
        due("4: beyond the end of a", x.copy(1, 1, 0, 0, 3), PLACE);
        due("4: far beyond", x.copy(1, 1, 0, 0, Integer.MAX_VALUE), PLACE);
        due("4: far beyond", x.copy(1, Integer.MAX_VALUE, 0, 0, 1), PLACE);
        due("4: none, at the ends", x.copy(0, 4, 1, 3, 0), 0);
        // The row becomes 7 5 5 3 by a copy within itself, which only then is what is ground on bed 0.
        x.set(0, 0, 5);
        x.set(0, 1, 5);
        x.set(0, 2, 3);
        due("4: as they were ahead", x.copy(0, 0, 0, 1, 3), 3);
        x.set(0, 0, 7);
        due("4: what came", x.fits(0, 0, 0, 4, 0), 1);
        x.row(0, 0, 4);
        due("2: a new row has items 0", x.fits(0, 0, 0, 4, 0), 20);
    }

    private static void feeding() {
        StoneWed x = new StoneWed();
        due("6: -1", x.feed(-1), BAD);
        due("6: 256", x.feed(256), BAD);
        for (int i = 1; i <= 100; i++) {
            due("6: feed", x.feed(i % 2 == 0 ? 0 : 255), i);
        }
        due("6: full", x.feed('m'), FULL);
        due("6: BAD ahead of FULL", x.feed(-1), BAD);
        due("6: bytes", x.count(7), 100);
        due("7: the tape is empty then", x.valley(), -1000100);
        due("7: bytes", x.count(7), 0);
    }

    private static void texts() {
        StoneWed x = new StoneWed();
        due("7: no runner", tell(x, "m1,0;b1,2,3;"), 0);
        due("7: figures", tell(x, "m01,00;b01,02,09;g00,01,02,00;w1,1,1,09;"), 2);
        due("7: a bed", x.bed(0, 2), 9);
        due("7: a runner", x.runner(0, 3), 0);
        due("7: none", x.runner(1, 3), NONE);
        due("7: all there is room for",
                tell(x, "m9,9;b0,0,0;b0,0,0;b0,0,0;b0,0,0;g0,0,0,3;f0,0,0,2;s0,0,0,1;o0,0,0,0;"), 4);
        due("7: beds", x.count(1), 4);
        due("7: kinds", x.kind(3), 4);
        x.days(5);
        x.image(0);
        x.row(3, 0, 3);
        due("7: in place of the one before", tell(x, TEXT), 4);
        due("7: DAY 0", x.count(3), 0);
        due("7: no FLOUR", x.count(4), 0);
        due("7: no ACT", x.count(6), 0);
        due("7: ROWS stay", x.count(0), 1);
        due("7: IMAGES stay", x.restore(0), 1);
        due("7: DAY of the IMAGE", x.count(3), 5);
    }

    private static void fault(String text, int place, int number) {
        StoneWed x = told(TEXT);
        x.days(3);
        due("7: " + text, tell(x, text), -1000100 - place);
        due("8: " + text, x.fault(), number);
        due("7: all stays", x.count(3), 3);
        due("7: acts stay", x.count(6), 3);
        due("7: the tape does not", x.count(7), 0);
        due("7: a good one behind it", tell(x, TEXT), 4);
        due("8: the latest one", x.fault(), number);
    }

    private static void faults() {
        fault("", 0, 1);
        fault("M1,1;", 0, 1);
        fault("m", 1, 1);
        fault("m,", 1, 1);
        fault("m0,", 1, 2);
        fault("m10,", 1, 2);
        fault("m100,", 1, 1);
        fault("m1;1;", 2, 1);
        fault("m1,10", 3, 2);
        fault("m1,1;", 5, 1);
        fault("m1,1;g1,1,1,9;", 5, 1);
        fault("m1,1; b1,1,1;", 5, 1);
        fault("m1,1;b1,1,1", 11, 1);
        fault("m1,1;b1,001,1;", 8, 1);
        fault("m1,1;b1,1,1;b1,1,1;b1,1,1;b1,1,1;b1,1,1;", 33, 3);
        fault("m1,1;b10,1,1;", 6, 2);
        fault("m1,1;b1,10,1;", 8, 2);
        fault("m1,1;b1,1,10;", 10, 2);
        fault("m1,1;b1,1,1;g10,1,1,9;", 13, 2);
        fault("m1,1;b1,1,1;g1,10,1,9;", 15, 2);
        fault("m1,1;b1,1,1;g1,1,10,9;", 17, 2);
        fault("m1,1;b1,1,1;x1,1,1,9;", 12, 1);
        fault("m1,1;b1,1,1;5", 12, 1);
        fault("m1,1;b1,1,1;g1,1,1;", 18, 1);
        fault("m1,1;b1,1,1;g1,1,1,1;", 19, 2);
        fault("m1,1;b1,1,1;g1,1,1,99;", 19, 2);
        fault("m1,1;b1,1,1;g1,1,1,0;f1,1,1,0;", 28, 2);
        fault("m1,1;b1,1,1;g1,1,1,9;b1,1,1;", 21, 1);
        fault("m1,1;b1,1,1;g1,1,1,9;g1,1,1,9;g1,1,1,9;g1,1,1,9;g1,1,1,9;", 48, 3);
        fault("m1,1;b1,1,1;g1,1,1,9;g1,1,1,9;g1,1,1,9;g1,1,1,9;b1,1,1;", 48, 1);
    }

    private static void days() {
        StoneWed x = told(TEXT);
        due("9: 0", x.days(0), BAD);
        due("9: 25", x.days(25), BAD);
        due("9: a DAY", x.days(1), 18);
        due("9: FURROW of a runner", x.runner(0, 1), 3);
        due("9: FURROW of a bed", x.bed(0, 1), 4);
        due("9: FURROW of a bed under one that sparks", x.bed(1, 1), 6);
        due("9: FURROW of one that lies nowhere", x.runner(1, 1), 9);
        due("9: two more", x.days(2), 25);
        due("9: FLOUR", x.bed(0, 4), 17);
        due("9: FLOUR", x.bed(1, 4), 26);
        due("9: DAY", x.count(3), 3);
    }

    private static void worn() {
        StoneWed x = told("m1,9;b0,1,0;b0,1,0;b0,0,0;b0,9,0;g0,1,0,0;s0,0,0,1;f0,1,0,2;");
        due("9: a DAY", x.days(1), 2 + 1 + 2);
        int[] none = {0, 0, 0};
        for (int i = 0; i < 3; i++) {
            due("9: FURROW of runner " + i, x.runner(i, 1), none[i]);
            due("9: FURROW of bed " + i, x.bed(i, 1), none[i]);
        }
        due("9: a bed on which none lies", x.bed(3, 1), 9);
        due("9: 0 at least", x.days(9), 0);
        due("9: 0 at least", x.runner(0, 1), 0);
        due("9: 0 at least", x.bed(1, 1), 0);
        due("18: four beds", x.flourOfAll(60), 5);
        due("33: FLOUR of four beds", x.count(4), 5);
        due("33: three lie", x.count(5), 3);
        fraction(x, 1, 3, 0, 1);
        x.dress(4);
        x.dress(7);
        fraction(x, 9, 3, 7, 10);
        StoneWed often = told("m3,9;b0,9,0;s0,9,0,0;");
        due("9: LASTS 3, DAYS 0 to 3", often.days(4), 18 + 15 + 14 + 13);
        due("9: the runner wears on DAYS 0 and 3", often.runner(0, 1), 7);
        due("9: the bed on all, twice on these", often.bed(0, 1), 3);
    }

    private static void lastDay() {
        StoneWed x = told("m1,0;b0,0,0;w0,0,0,0;");
        for (int i = 0; i < 41; i++) {
            due("9: a widow", x.days(24), 24);
        }
        due("9: beyond DAY 999", x.days(16), FULL);
        due("9: BAD ahead of FULL", x.days(25), BAD);
        due("9: to DAY 999", x.days(15), 15);
        due("9: beyond", x.days(1), FULL);
        due("18: foretold beyond", x.flourOfAll(3), 999 + 3);
    }

    private static void acts() {
        StoneWed x = told(TEXT);
        due("10: no runner", x.wed(4, 0), BAD);
        due("10: no bed", x.wed(0, 2), BAD);
        due("10: another one lies there", x.wed(1, 0), STATE);
        due("10: it lies there", x.wed(0, 0), STATE);
        due("11: no runner", x.part(-1), BAD);
        due("11: nowhere", x.part(1), STATE);
        due("12: no stone", x.dress(6), BAD);
        due("12: no stone", x.dress(-1), BAD);
        due("12: no stone", x.dress(Integer.MIN_VALUE), BAD);
        due("11: parted", x.part(2), 1);
        due("10: from another bed", x.wed(0, 1), 3);
        due("10: that one is left", x.bed(0, 3), NONE);
        due("10: wed", x.wed(1, 0), 26);
        due("12: a runner", x.dress(0), 4);
        due("12: a bed", x.dress(5), 8);
        due("12: again", x.dress(5), 9);
        due("13: each is an ACT", x.count(6), 6);
        StoneWed alone = told("m1,1;b1,1,1;g1,1,1,9;");
        due("12: no such runner, though a bed", alone.dress(1), BAD);
        due("12: a bed", alone.dress(4), 1);
    }

    private static void undoing() {
        StoneWed x = told(TEXT);
        x.dress(4);
        x.part(0);
        x.wed(0, 0);
        x.days(2);
        due("13: undone", x.undo(), 4);
        due("13: a DAY", x.count(3), 1);
        due("13: a DAY", x.undo(), 3);
        due("13: no FLOUR", x.count(4), 0);
        due("13: FURROW as it was", x.runner(0, 1), 4);
        due("13: a wedding", x.undo(), 2);
        due("13: nowhere", x.runner(0, 3), NONE);
        due("13: a parting", x.undo(), 1);
        due("13: where it lay", x.runner(0, 3), 0);
        due("13: a stone dressed", x.undo(), 0);
        due("13: FURROW", x.bed(0, 1), 5);
        due("13: none", x.undo(), STATE);
        x.days(1);
        x.days(1);
        x.undo();
        due("13: FLOUR as it was", x.bed(0, 4), 7);
        due("13: FLOUR as it was", x.bed(1, 4), 11);
        x.undo();
        x.dress(0);
        x.days(24);
        due("13: 24 at most", x.count(6), 24);
        for (int left = 23; left >= 0; left--) {
            due("13: undone", x.undo(), left);
        }
        due("13: the oldest is forgotten", x.undo(), STATE);
        due("13: so it stays", x.runner(0, 1), 9);
    }

    private static void stones() {
        StoneWed x = told(TEXT);
        int[] runner = {3, 4, 4, 0, 7};
        int[] nowhere = {0, 9, 0, NONE, 0};
        int[] bed = {9, 8, 9, 2, 0};
        for (int what = 0; what < 5; what++) {
            due("14: runner", x.runner(0, what), runner[what]);
            due("14: runner", x.runner(1, what), nowhere[what]);
            due("15: bed", x.bed(1, what), bed[what]);
        }
        due("14: what", x.runner(0, 5), BAD);
        due("14: what", x.runner(0, -1), BAD);
        due("14: none", x.runner(4, 0), BAD);
        due("15: what", x.bed(0, 5), BAD);
        due("15: none", x.bed(2, 0), BAD);
        x.part(2);
        due("15: none lies there", x.bed(1, 3), NONE);
    }

    private static void grinding() {
        StoneWed x = told(TEXT);
        int[][] due = {{7, 3}, {26, 8}, {0, 11}, {2, 2}};
        for (int r = 0; r < 4; r++) {
            for (int b = 0; b < 2; b++) {
                due("16: runner " + r + " on " + b, x.grinds(r, b), due[r][b]);
            }
        }
        due("16: no runner", x.grinds(4, 0), BAD);
        due("16: no bed", x.grinds(0, 2), BAD);
        StoneWed widow = told("m9,0;b0,9,0;w0,0,0,0;w0,0,1,9;");
        due("16: a widow", widow.grinds(0, 0), 7);
        due("16: one that quarrels", widow.grinds(1, 0), 3);
        widow.days(1);
        due("16: a widow, DAY 1", widow.grinds(0, 0), 4);
        due("16: one that quarrels, DAY 1", widow.grinds(1, 0), 2);
        widow.days(2);
        due("16: a widow, DAY 3", widow.grinds(0, 0), 7);
    }

    private static void foretold() {
        StoneWed x = told(TEXT);
        due("17: now", x.flour(0, 0), 0);
        due("17: in 4 DAYS", x.flour(0, 4), 20);
        due("17: in 4 DAYS", x.flour(1, 4), 30);
        due("17: no bed", x.flour(2, 4), BAD);
        due("17: d", x.flour(0, 61), BAD);
        due("17: d", x.flour(0, -1), BAD);
        due("18: in 4 DAYS", x.flourOfAll(4), 50);
        due("18: d", x.flourOfAll(61), BAD);
        due("18: nothing changes", x.count(3) + x.count(4) + x.count(6), 0);
        due("18: nothing changes", x.runner(0, 1), 4);
        x.days(1);
        due("18: what is there, and what comes", x.flourOfAll(3), 50);
    }

    private static void blocking() {
        StoneWed x = told(TEXT);
        due("19: how many", x.blocks(0), 1);
        due("19: the first", x.blocks(1), 10);
        due("19: what", x.blocks(2), BAD);
        x.part(0);
        x.wed(1, 0);
        due("19: none", x.blocks(0), 0);
        due("19: none", x.blocks(1), NONE);
        StoneWed same = told("m1,9;b0,4,0;b0,4,0;b0,3,0;g0,1,0,0;g0,1,0,1;g0,1,0,9;");
        due("19: as much as where it lies, or as the other one, is not more", same.blocks(0), 1);
        due("19: but more than nothing", same.blocks(1), 22);
        StoneWed one = told("m1,9;b0,0,0;b0,0,1;g0,1,0,9;g0,0,0,9;");
        due("19: 1 is more than nothing, 0 is not", one.blocks(0), 2);
        due("20: 1 is more than nothing", one.stable(0), 0);
        due("20: 0 is not", one.stable(1), NONE);
        due("19: as much on a free bed is not more", told("m1,9;b0,4,0;b0,4,0;g0,1,0,0;").blocks(0), 0);
        x.part(2);
        due("19: on a free bed", x.blocks(0), 3);
        due("19: the first on a free bed", x.blocks(1), 1);
    }

    private static void stable() {
        StoneWed x = told(TEXT);
        int[] due = {NONE, 0, 1, NONE};
        for (int r = 0; r < 4; r++) {
            due("20: runner " + r, x.stable(r), due[r]);
        }
        due("20: none", x.stable(4), BAD);
        due("20: none", x.stable(-1), BAD);
        StoneWed same = told("m1,9;b0,4,0;b0,4,0;g0,1,0,9;g0,1,0,9;g0,1,0,9;");
        due("20: the first of several", same.stable(0), 0);
        due("20: of equals the one that lies there stays", same.stable(1), 1);
        due("20: none left", same.stable(2), NONE);
        StoneWed idle = told("m1,9;b9,4,0;g0,1,0,0;");
        due("20: on which it would grind nothing", idle.stable(0), NONE);
    }

    private static void most() {
        StoneWed x = told(TEXT);
        int[] due = {37, NONE, 0, 1, NONE};
        for (int k = -1; k < 4; k++) {
            due("21: k " + k, x.most(1, k), due[k + 1]);
        }
        int[] first = {0, 0, 1, NONE, NONE};
        for (int k = -1; k < 4; k++) {
            due("21: in no DAYS the first weddings, k " + k, x.most(0, k), first[k + 1]);
        }
        due("21: k", x.most(1, 4), BAD);
        due("21: k", x.most(1, -2), BAD);
        due("21: d", x.most(61, 0), BAD);
        StoneWed few = told("m1,1;b1,1,1;g1,1,1,9;");
        due("21: no such RUNNER", few.most(1, 3), NONE);
        due("21: nobody", told("m1,1;b1,1,1;").most(9, -1), 0);
    }

    private static void moved() {
        StoneWed x = told(TEXT);
        int[] stay = {0, 0, NONE, 1, NONE};
        int[] move = {2, NONE, 0, 1, NONE};
        for (int k = -1; k < 4; k++) {
            due("22: none moves, k " + k, x.moved(1, 18, k), stay[k + 1]);
            due("22: two move, k " + k, x.moved(1, 19, k), move[k + 1]);
            due("22: as much as can be, k " + k, x.moved(1, 37, k), move[k + 1]);
            due("22: too much, k " + k, x.moved(1, 38, k), NONE);
        }
        due("21: most behind moved", x.most(1, -1), 37);
        due("22: q 999", x.moved(60, 999, -1), NONE);
        due("22: k", x.moved(1, 1, 4), BAD);
        due("22: k", x.moved(1, 1, -2), BAD);
        due("22: q", x.moved(1, 1000, 0), BAD);
        due("22: q", x.moved(1, -1, 0), BAD);
        due("22: d", x.moved(61, 1, 0), BAD);
        due("22: in no DAYS nothing", x.moved(0, 0, -1), 0);
        due("22: in no DAYS no more", x.moved(0, 1, -1), NONE);
    }

    private static void dressing() {
        StoneWed x = told(TEXT);
        due("23: which", x.dressing(1, 0), 2);
        due("23: how much", x.dressing(1, 1), 24);
        due("23: in no DAYS the first", x.dressing(0, 0), 0);
        due("23: in no DAYS nothing", x.dressing(0, 1), 0);
        due("23: d", x.dressing(61, 0), BAD);
        due("23: what", x.dressing(1, 2), BAD);
        due("23: nothing changes", x.runner(2, 1), 3);
        due("23: a bed, if there are no runners", told("m1,1;b1,1,1;b1,1,1;").dressing(5, 0), 4);
        due("23: runners ahead of beds", told("m1,1;b1,1,1;g1,1,1,0;").dressing(5, 0), 0);
        due("23: the bed of a soft one", told("m1,1;b1,1,1;o1,1,1,0;").dressing(5, 0), 4);
    }

    private static void fitting() {
        StoneWed x = told(TEXT);
        int[] ground = {7, 5, 5, 3};
        x.row(0, 2, 8);
        for (int i = 0; i < 4; i++) {
            x.set(0, 2 + i, ground[i]);
        }
        due("24: LAIN", x.fits(0, 0, 2, 4, 0), 1);
        due("24: SORTS of a DAY", x.fits(0, 0, 2, 1, 1), 10);
        due("24: SORTS", x.fits(0, 0, 2, 4, 1), 2);
        due("24: ROCKS", x.fits(0, 0, 2, 4, 2), 8);
        due("24: none has lain", x.fits(0, 0, 0, 2, 0), 20);
        due("24: what is not so", x.fits(1, 0, 2, 4, 0), 0);
        x.part(0);
        due("24: LAIN, wherever it lies", x.fits(0, 0, 2, 4, 0), 1);
        due("24: SORTS of none", x.fits(0, 0, 2, 1, 1), 0);
        due("24: ROCKS of none", x.fits(0, 0, 2, 1, 2), 0);
        StoneWed rocks = told("m1,9;b3,4,0;g5,1,0,0;");
        rocks.row(0, 0, 1);
        rocks.set(0, 0, 3);
        due("24: rocks on both sides", rocks.fits(0, 0, 0, 1, 2), 1 << 1 | 1 << 5);
        x.wed(3, 0);
        x.set(0, 0, 5);
        due("24: SORTS, a widow", x.fits(0, 0, 0, 1, 1), 32);
        StoneWed idle = told("m1,9;b9,0,0;g5,0,0,0;");
        idle.row(0, 0, 16);
        due("24: all rocks", idle.fits(0, 0, 0, 16, 2), 1023);
        due("24: all kinds but a widow", idle.fits(0, 0, 0, 16, 1), 30);
    }

    private static void fittingRefused() {
        StoneWed x = told(TEXT);
        x.row(0, 0, 20);
        due("24: BED", x.fits(2, 0, 0, 1, 0), BAD);
        due("24: ROW", x.fits(0, 8, 0, 1, 0), BAD);
        due("24: n 0", x.fits(0, 0, 0, 0, 0), BAD);
        due("24: n 17", x.fits(0, 0, 0, 17, 0), BAD);
        due("24: what", x.fits(0, 0, 0, 1, 3), BAD);
        due("24: BAD ahead of NULL", x.fits(0, 1, 0, 1, -1), BAD);
        due("24: NULL ahead of PLACE", x.fits(0, 1, -1, 1, 0), NULL);
        due("24: i -1", x.fits(0, 0, -1, 1, 0), PLACE);
        due("24: beyond the end", x.fits(0, 0, 5, 16, 0), PLACE);
        due("24: far beyond", x.fits(0, 0, Integer.MAX_VALUE, 16, 0), PLACE);
        due("24: to the end", x.fits(0, 0, 4, 16, 0), 20);
    }

    private static void fraction(StoneWed x, int q, int c, int above, int below) {
        due("25: above, " + q + " by " + c, x.breaks(q, c, 0), above);
        due("25: below, " + q + " by " + c, x.breaks(q, c, 1), below);
    }

    private static void breaking() {
        StoneWed x = told(TEXT);
        fraction(x, 18, 3, 49, 100);
        fraction(x, 8, 3, 7, 10);
        fraction(x, 1, 3, 91, 100);
        fraction(x, 19, 3, 0, 1);
        fraction(x, 0, 3, 1, 1);
        fraction(x, 18, 5, 1, 4);
        fraction(x, 18, 0, 1, 1);
        fraction(x, 1, 10, 0, 1);
        due("25: q", x.breaks(1000, 0, 0), BAD);
        due("25: q", x.breaks(-1, 0, 0), BAD);
        due("25: c", x.breaks(1, 11, 0), BAD);
        due("25: c", x.breaks(1, -1, 0), BAD);
        due("25: what", x.breaks(1, 1, 2), BAD);
        fraction(told("m1,1;b1,1,1;"), 1, 5, 0, 1);
    }

    private static void drawing() {
        StoneWed x = told(TEXT);
        due("26: no DAYS", x.drawn(0, 1, 0), 0);
        due("26: FURROWS as they are", x.drawn(0, 1, 1), 4 + 9 + 3 + 5 + 5 + 8);
        due("26: a DAY", x.drawn(1, 1, 0), 19);
        due("26: FURROWS then", x.drawn(1, 1, 1), 30);
        due("26: two DAYS", x.drawn(2, 1, 0), 35);
        due("26: FURROWS then", x.drawn(2, 1, 1), 31);
        // 3 times 16807 is a multiple of 3 and leaves 1 by 4: runner 1, that lies nowhere.
        due("26: a runner is dressed", x.drawn(1, 3, 0), 18);
        due("26: FURROWS then", x.drawn(1, 3, 1), 4 + 9 + 3 + 5 + 5 + 8 - 5);
        // 6 leaves 2 by 4, 24 leaves 0 by 4; 2 leaves 2 by 3; each times 16807, that leaves 1 by 3 and 3 by 4.
        due("26: the runner that sparks is dressed", x.drawn(1, 6, 0), 18 + 6);
        due("26: the first runner is dressed", x.drawn(1, 24, 0), 18 + 5);
        due("26: none is dressed", x.drawn(1, 2, 1), 29);
        due("26: another bed", x.drawn(1, 4, 0), 18 + 4);
        due("26: SEED 999999 is none too many", x.drawn(0, 999999, 0), 0);
        due("26: n", x.drawn(61, 1, 0), BAD);
        due("26: SEED 0", x.drawn(1, 0, 0), BAD);
        due("26: SEED", x.drawn(1, 1000000, 0), BAD);
        due("26: what", x.drawn(1, 1, 2), BAD);
        due("26: nothing changes", x.count(3) + x.count(6), 0);
        due("26: no runners", told("m1,1;b1,1,1;").drawn(60, 999999, 0), 0);
    }

    private static void images() {
        StoneWed x = told(TEXT);
        x.days(1);
        due("27: image", x.image(0), 1);
        due("27: acts stay", x.count(6), 1);
        due("27: 2", x.image(2), BAD);
        due("28: none was kept", x.restore(1), STATE);
        due("28: 2", x.restore(2), BAD);
        due("28: -1", x.restore(-1), BAD);
        tell(x, "m1,0;b1,2,3;");
        x.days(9);
        due("27: the other", x.image(1), 1);
        due("28: restored", x.restore(0), 1);
        due("28: DAY", x.count(3), 1);
        due("28: FLOUR", x.count(4), 18);
        due("28: no ACT", x.undo(), STATE);
        due("28: as it was", x.days(2), 25);
        due("28: once more", x.restore(0), 1);
        due("28: as it was", x.days(2), 25);
        due("28: the other", x.restore(1), 1);
        due("28: DAY", x.count(3), 9);
        due("28: beds", x.count(1), 1);
    }

    private static void kinds() {
        StoneWed x = told(TEXT);
        StoneWed widow = told("m1,1;b1,1,1;w4,1,1,9;");
        int[] told = {1, 2, 3, 4};
        String[] are = {"110000", "111000", "110100", "100010"};
        for (int r = 0; r < 4; r++) {
            due("29: runner " + r, x.kind(r), told[r]);
            for (int kind = 0; kind < 6; kind++) {
                due("30: runner " + r + " as " + kind, x.as(r, kind), are[r].charAt(kind) == '1' || kind == 0 ? r : KIND);
            }
        }
        due("29: a widow", widow.kind(0), 5);
        due("30: a widow is soft", widow.as(0, 4), 0);
        due("30: a widow", widow.as(0, 5), 0);
        due("30: a widow is not gritty", widow.as(0, 1), KIND);
        due("34: KIND", widow.status(), 3);
        due("29: none", x.kind(4), BAD);
        due("30: none", x.as(4, 0), BAD);
        due("30: no kind", x.as(0, 6), BAD);
        due("30: no kind", x.as(0, -1), BAD);
    }

    private static void asked(StoneWed x, int runner, int what, int answer, int... trace) {
        due("31: runner " + runner + ", ask " + what, x.ask(runner, what), answer);
        for (int i = 0; i < 18; i++) {
            due("32: runner " + runner + ", ask " + what + ", " + i, x.trace(i), i < trace.length ? trace[i] : NONE);
        }
    }

    private static void asks() {
        StoneWed x = told(TEXT);
        asked(x, 0, 0, 7, 11, 10, 21, 20);
        asked(x, 0, 1, 4, 21, 20);
        asked(x, 1, 0, -20, 12, 11, 10, 24, 21, 20);
        asked(x, 1, 1, 20, 24, 21, 20);
        asked(x, 2, 0, -986, 11, 10, 22, 21, 20);
        asked(x, 2, 1, -995, 22, 21, 20);
        asked(x, 3, 0, -95, 13, 10);
        asked(x, 3, 1, 98, 23, 20, 13, 10);
        due("31: none", x.ask(4, 0), BAD);
        due("31: what", x.ask(0, 2), BAD);
        due("31: THE TRACE stays", x.trace(3), 10);
        due("32: -1", x.trace(-1), NONE);
        StoneWed widow = told("m1,1;b1,1,1;w4,1,1,9;");
        asked(widow, 0, 0, -192, 14, 13, 10);
        asked(widow, 0, 1, 192, 23, 20, 14, 13, 10);
        x.dress(0);
        asked(x, 0, 1, 9, 21, 20);
    }

    private static void counts() {
        StoneWed x = told(TEXT);
        x.days(3);
        x.row(0, 0, 0);
        x.row(7, 0, 1);
        x.feed('m');
        int[] due = {2, 2, 4, 3, 43, 2, 3, 1};
        for (int what = 0; what < 8; what++) {
            due("33: " + what, x.count(what), due[what]);
        }
        due("33: 8", x.count(8), BAD);
        due("33: -1", x.count(-1), BAD);
    }

    private static void statuses() {
        StoneWed x = told(TEXT);
        x.set(0, 0, 0);
        due("34: NULL", x.status(), 1);
        x.row(0, 0, 41);
        x.copy(8, 0, 0, 0, 0);
        x.fits(0, 0, 0, 17, 0);
        x.as(0, 6);
        x.ask(0, 0);
        x.days(1);
        due("34: refusals, and other calls, change nothing", x.status(), 1);
        x.row(0, 0, -1);
        due("34: SIZE", x.status(), 4);
        x.row(0, 0, 3);
        due("34: none", x.status(), 0);
        x.set(0, 3, 0);
        due("34: PLACE", x.status(), 2);
        x.set(0, 2, 0);
        due("34: none", x.status(), 0);
        x.row(1, 1, 3);
        x.copy(0, 0, 1, 0, 1);
        due("34: STORE", x.status(), 5);
        x.copy(0, 0, 0, 0, 1);
        due("34: none", x.status(), 0);
        x.as(0, 2);
        due("34: KIND", x.status(), 3);
        x.as(0, 1);
        due("34: none", x.status(), 0);
        x.fits(0, 0, 3, 1, 0);
        due("34: PLACE", x.status(), 2);
        x.fits(0, 0, 0, 1, 0);
        due("34: none", x.status(), 0);
        x.drop(5);
        due("34: NULL", x.status(), 1);
        x.drop(0);
        due("34: none", x.status(), 0);
    }
}
