import java.util.ArrayList;
import java.util.List;
import java.util.function.Consumer;
import java.util.function.ToIntFunction;

/**
 * What is refused, or found, changes nothing but status(); what is asked, or foretold, changes nothing.
 * Of two objects, made alike, one takes the call; then all that can be seen of both must be the same.
 */
public final class UnchangedTest extends Due {
    private static final String FOUR = "m2,3;b1,5,2;b9,8,9;g3,4,4,0;f0,9,0,9;s9,3,9,1;o5,5,5,9;";
    private static final int ASKED = 1;

    private interface OfNumber {
        int on(StoneWed x, int number);
    }

    private record Call(String name, int due, ToIntFunction<StoneWed> on) {
    }

    private static final List<Call> calls = new ArrayList<>();

    public static void main(String[] args) {
        refusedWithoutValley();
        run("without a VALLEY", UnchangedTest::rowsAlone);
        refusedOfRows();
        refusedOfActs();
        refusedAhead();
        refusedOfTheRest();
        run("with a VALLEY", UnchangedTest::standing);
        refusedWhenFull();
        run("full", UnchangedTest::full);
        asked();
        run("asked", UnchangedTest::standing);
        run("asked, full", UnchangedTest::full, everywhereTheSame());
        faults();
        end();
    }

    private static void add(String name, int due, ToIntFunction<StoneWed> on) {
        calls.add(new Call(name, due, on));
    }

    private static void add(String name, int due, OfNumber on, int... numbers) {
        for (int number : numbers) {
            calls.add(new Call(name + ", n " + number, due, x -> on.on(x, number)));
        }
    }

    private static void rowsAlone(StoneWed x) {
        x.row(0, 0, 3);
        x.row(1, 1, 4);
        x.row(2, 2, 40);
        x.row(3, 0, 0);
        for (int i = 0; i < 3; i++) {
            x.set(0, i, 1 + i);
            x.set(1, i, 4 - i);
            x.set(2, 13 * i, 1 + i);
        }
        feed(x, "m1,1;b");
        x.set(7, 0, 0);
    }

    private static void standing(StoneWed x) {
        tell(x, "m0");
        tell(x, "m1,0;b1,2,3;g1,1,1,0;");
        x.days(2);
        x.image(1);
        tell(x, FOUR);
        x.dress(4);
        x.part(0);
        x.wed(0, 0);
        x.days(2);
        x.ask(1, 0);
        rowsAlone(x);
        x.as(0, 2);
    }

    /** DAY 999, 24 ACTS, 100 bytes. */
    private static void full(StoneWed x) {
        tell(x, "m1,9;b0,5,0;w0,1,0,0;");
        x.image(0);
        for (int passed = 0; passed < 984; passed += 24) {
            x.days(24);
        }
        x.days(15);
        x.dress(4);
        x.part(0);
        feed(x, "m1,1;b1,1,1;");
        while (x.count(7) < 100) {
            x.feed(';');
        }
        x.as(0, 1);
    }

    private static void run(String state, Consumer<StoneWed> setup) {
        run(state, setup, calls);
        calls.clear();
    }

    private static void run(String state, Consumer<StoneWed> setup, List<Call> those) {
        List<List<Integer>> without = new ArrayList<>();
        for (Seen.Probe probe : Seen.PROBES) {
            without.add(seen(setup, null, probe));
        }
        for (Call call : those) {
            says("What is refused, or found, changes nothing but status() | " + state + " | " + call.name);
            answer(setup, call);
            for (int k = 0; k < Seen.PROBES.size(); k++) {
                due("of probe " + k + ", the place that changes",
                        Seen.differ(seen(setup, call, Seen.PROBES.get(k)), without.get(k)), -1);
            }
        }
    }

    private static void answer(Consumer<StoneWed> setup, Call call) {
        StoneWed x = new StoneWed();
        setup.accept(x);
        int ahead = x.status();
        int fault = x.fault();
        int answer = call.on.applyAsInt(x);
        boolean found = answer <= NULL && answer >= STORE;
        boolean clean = call.due == ASKED && (call.name.startsWith("fits") || call.name.startsWith("as"));
        if (call.due != ASKED) {
            due("answer", answer, call.due);
        }
        due("status", x.status(), found ? -1000010 - answer : clean ? 0 : ahead);
        due("fault", x.fault(), fault);
    }

    private static List<Integer> seen(Consumer<StoneWed> setup, Call call, Seen.Probe probe) {
        StoneWed x = new StoneWed();
        setup.accept(x);
        if (call != null) {
            call.on.applyAsInt(x);
        }
        List<Integer> seen = new ArrayList<>();
        probe.look(x, seen);
        return seen;
    }

    private static void refusedWithoutValley() {
        add("row(n, 0, 1)", BAD, (x, n) -> x.row(n, 0, 1), -1, 8, LEAST, GREATEST);
        add("row(4, 0, n)", SIZE, (x, n) -> x.row(4, 0, n), -1, LEAST);
        add("days(n)", STATE, StoneWed::days, 1, 0, 25, LEAST, GREATEST);
        add("wed(n, 0)", BAD, (x, n) -> x.wed(n, 0), 0, -1, 4);
        add("part(n)", BAD, StoneWed::part, 0, -1, 4);
        add("dress(n)", BAD, StoneWed::dress, 0, 4, -1, 8);
        add("undo()", STATE, StoneWed::undo);
        add("runner(n, 0)", BAD, (x, n) -> x.runner(n, 0), 0, 4);
        add("bed(n, 0)", BAD, (x, n) -> x.bed(n, 0), 0, 4);
        add("grinds(n, 0)", BAD, (x, n) -> x.grinds(n, 0), 0, 4);
        add("flour(n, 0)", BAD, (x, n) -> x.flour(n, 0), 0, 4);
        add("flourOfAll(n)", STATE, StoneWed::flourOfAll, 0, -1, 61);
        add("blocks(n)", STATE, StoneWed::blocks, 0, 1, 2);
        add("stable(n)", BAD, StoneWed::stable, 0, 4);
        add("most(1, n)", STATE, (x, n) -> x.most(1, n), -1, 0, 4);
        add("moved(1, 0, n)", STATE, (x, n) -> x.moved(1, 0, n), -1, 0, 4);
        add("dressing(1, n)", STATE, (x, n) -> x.dressing(1, n), 0, 1, 2);
        add("fits(n, 0, 0, 1, 0)", BAD, (x, n) -> x.fits(n, 0, 0, 1, 0), 0, 4);
        add("breaks(1, 1, n)", STATE, (x, n) -> x.breaks(1, 1, n), 0, 1, 2);
        add("drawn(1, 1, n)", STATE, (x, n) -> x.drawn(1, 1, n), 0, 1, 2);
        add("image(n)", STATE, StoneWed::image, 0, 1);
        add("image(n)", BAD, StoneWed::image, -1, 2);
        add("restore(n)", STATE, StoneWed::restore, 0, 1);
        add("restore(n)", BAD, StoneWed::restore, -1, 2);
        add("kind(n)", BAD, StoneWed::kind, 0, 4);
        add("as(n, 0)", BAD, (x, n) -> x.as(n, 0), 0, 4);
        add("ask(n, 0)", BAD, (x, n) -> x.ask(n, 0), 0, 4);
    }

    private static void refusedOfRows() {
        int[] noRow = {-1, 8, LEAST, GREATEST};
        add("row(n, 0, 1)", BAD, (x, n) -> x.row(n, 0, 1), noRow);
        add("row(0, n, 1)", BAD, (x, n) -> x.row(0, n, 1), -1, 3, LEAST, GREATEST);
        add("row(0, 0, n)", BAD, (x, n) -> x.row(0, 0, n), 41, GREATEST);
        add("row(0, 2, n)", SIZE, (x, n) -> x.row(0, 2, n), -1, LEAST);
        add("row(7, 2, n)", SIZE, (x, n) -> x.row(7, 2, n), -1, LEAST);
        add("set(n, 0, 9)", BAD, (x, n) -> x.set(n, 0, 9), noRow);
        add("set(7, n, 9)", NULL, (x, n) -> x.set(7, n, 9), 0, -1, 40);
        add("set(0, n, 9)", PLACE, (x, n) -> x.set(0, n, 9), -1, 3, 39, LEAST, GREATEST);
        add("set(2, n, 9)", PLACE, (x, n) -> x.set(2, n, 9), -1, 40, LEAST, GREATEST);
        add("copy(n, 0, 0, 0, 1)", BAD, (x, n) -> x.copy(n, 0, 0, 0, 1), noRow);
        add("copy(0, 0, n, 0, 1)", BAD, (x, n) -> x.copy(0, 0, n, 0, 1), noRow);
        add("copy(n, 0, 0, 0, 1)", NULL, (x, n) -> x.copy(n, 0, 0, 0, 1), 4, 7);
        add("copy(0, 0, n, 0, 1)", NULL, (x, n) -> x.copy(0, 0, n, 0, 1), 4, 7);
        add("copy(0, 0, n, 0, 2)", STORE, (x, n) -> x.copy(0, 0, n, 0, 2), 1, 2);
        add("copy(n, 0, 0, 0, 2)", STORE, (x, n) -> x.copy(n, 0, 0, 0, 2), 1, 2);
        add("copy(0, n, 0, 0, 1)", PLACE, (x, n) -> x.copy(0, n, 0, 0, 1), -1, 3, LEAST, GREATEST);
        add("copy(0, 0, 0, n, 1)", PLACE, (x, n) -> x.copy(0, 0, 0, n, 1), -1, 3, LEAST, GREATEST);
        add("copy(0, 0, 0, 1, n)", PLACE, (x, n) -> x.copy(0, 0, 0, 1, n), -1, 3, LEAST, GREATEST);
        add("copy(0, 1, 0, 0, n)", PLACE, (x, n) -> x.copy(0, 1, 0, 0, n), -1, 3, LEAST, GREATEST);
        add("copy(0, 0, 3, 0, n)", PLACE, (x, n) -> x.copy(0, 0, 3, 0, n), 1, 3);
        add("drop(n)", BAD, StoneWed::drop, noRow);
        add("drop(n)", NULL, StoneWed::drop, 4, 7);
        add("fits(0, n, 0, 1, 0)", BAD, (x, n) -> x.fits(0, n, 0, 1, 0), noRow);
        add("fits(n, 0, 0, 1, 0)", BAD, (x, n) -> x.fits(n, 0, 0, 1, 0), -1, 2, LEAST, GREATEST);
        add("fits(0, 0, 0, n, 0)", BAD, (x, n) -> x.fits(0, 0, 0, n, 0), 0, 17, LEAST, GREATEST);
        add("fits(0, 0, 0, 1, n)", BAD, (x, n) -> x.fits(0, 0, 0, 1, n), -1, 3, LEAST, GREATEST);
        add("fits(0, n, 0, 1, 0)", NULL, (x, n) -> x.fits(0, n, 0, 1, 0), 4, 7);
        add("fits(0, 0, n, 1, 0)", PLACE, (x, n) -> x.fits(0, 0, n, 1, 0), -1, 3, LEAST, GREATEST);
    }

    private static void refusedOfActs() {
        add("feed(n)", BAD, StoneWed::feed, -1, 256, LEAST, GREATEST);
        add("days(n)", BAD, StoneWed::days, 0, -1, 25, LEAST, GREATEST);
        add("wed(n, 0)", BAD, (x, n) -> x.wed(n, 0), -1, 4, LEAST, GREATEST);
        add("wed(0, n)", BAD, (x, n) -> x.wed(0, n), -1, 2, NONE, LEAST, GREATEST);
        add("wed(n, 0)", STATE, (x, n) -> x.wed(n, 0), 0, 1, 2);
        add("part(n)", BAD, StoneWed::part, -1, 4, LEAST, GREATEST);
        add("part(n)", STATE, StoneWed::part, 1, 3);
        add("dress(n)", BAD, StoneWed::dress, -1, 6, 7, 8, LEAST, GREATEST);
        add("runner(n, 0)", BAD, (x, n) -> x.runner(n, 0), -1, 4, LEAST, GREATEST);
        add("runner(0, n)", BAD, (x, n) -> x.runner(0, n), -1, 5, LEAST, GREATEST);
        add("bed(n, 0)", BAD, (x, n) -> x.bed(n, 0), -1, 2, LEAST, GREATEST);
        add("bed(0, n)", BAD, (x, n) -> x.bed(0, n), -1, 5, LEAST, GREATEST);
        add("grinds(n, 0)", BAD, (x, n) -> x.grinds(n, 0), -1, 4, LEAST, GREATEST);
        add("grinds(0, n)", BAD, (x, n) -> x.grinds(0, n), -1, 2, LEAST, GREATEST);
    }

    private static void refusedAhead() {
        int[] noDays = {-1, 61, LEAST, GREATEST};
        int[] neither = {-1, 2, LEAST, GREATEST};
        add("flour(0, n)", BAD, (x, n) -> x.flour(0, n), noDays);
        add("flour(n, 0)", BAD, (x, n) -> x.flour(n, 0), -1, 2, LEAST, GREATEST);
        add("flourOfAll(n)", BAD, StoneWed::flourOfAll, noDays);
        add("blocks(n)", BAD, StoneWed::blocks, neither);
        add("stable(n)", BAD, StoneWed::stable, -1, 4, LEAST, GREATEST);
        add("most(n, 0)", BAD, (x, n) -> x.most(n, 0), noDays);
        add("most(1, n)", BAD, (x, n) -> x.most(1, n), -2, 4, LEAST, GREATEST);
        add("moved(n, 0, 0)", BAD, (x, n) -> x.moved(n, 0, 0), noDays);
        add("moved(1, n, 0)", BAD, (x, n) -> x.moved(1, n, 0), -1, 1000, LEAST, GREATEST);
        add("moved(1, 0, n)", BAD, (x, n) -> x.moved(1, 0, n), -2, 4, LEAST, GREATEST);
        add("dressing(n, 0)", BAD, (x, n) -> x.dressing(n, 0), noDays);
        add("dressing(1, n)", BAD, (x, n) -> x.dressing(1, n), neither);
        add("breaks(n, 1, 0)", BAD, (x, n) -> x.breaks(n, 1, 0), -1, 1000, LEAST, GREATEST);
        add("breaks(1, n, 0)", BAD, (x, n) -> x.breaks(1, n, 0), -1, 11, LEAST, GREATEST);
        add("breaks(1, 1, n)", BAD, (x, n) -> x.breaks(1, 1, n), neither);
        add("drawn(n, 1, 0)", BAD, (x, n) -> x.drawn(n, 1, 0), noDays);
        add("drawn(1, n, 0)", BAD, (x, n) -> x.drawn(1, n, 0), 0, -1, 1000000, LEAST, GREATEST);
        add("drawn(1, 1, n)", BAD, (x, n) -> x.drawn(1, 1, n), neither);
    }

    private static void refusedOfTheRest() {
        int[] neither = {-1, 2, LEAST, GREATEST};
        add("image(n)", BAD, StoneWed::image, neither);
        add("restore(n)", BAD, StoneWed::restore, neither);
        add("restore(0)", STATE, x -> x.restore(0));
        add("kind(n)", BAD, StoneWed::kind, -1, 4, LEAST, GREATEST);
        add("as(n, 0)", BAD, (x, n) -> x.as(n, 0), -1, 4, LEAST, GREATEST);
        add("as(0, n)", BAD, (x, n) -> x.as(0, n), -1, 6, LEAST, GREATEST);
        add("as(0, n)", KIND, (x, n) -> x.as(0, n), 2, 3, 4, 5);
        add("ask(n, 0)", BAD, (x, n) -> x.ask(n, 0), -1, 4, LEAST, GREATEST);
        add("ask(0, n)", BAD, (x, n) -> x.ask(0, n), neither);
        add("trace(n)", NONE, StoneWed::trace, -1, 16, LEAST, GREATEST);
        add("count(n)", BAD, StoneWed::count, -1, 8, LEAST, GREATEST);
    }

    private static void refusedWhenFull() {
        add("feed(n)", FULL, StoneWed::feed, 0, ';', 255);
        add("feed(n)", BAD, StoneWed::feed, -1, 256);
        add("days(n)", FULL, StoneWed::days, 1, 2, 24);
        add("days(n)", BAD, StoneWed::days, 0, 25, LEAST, GREATEST);
        add("part(0)", STATE, x -> x.part(0));
        add("wed(0, 1)", BAD, x -> x.wed(0, 1));
        add("dress(n)", BAD, StoneWed::dress, 1, 5, 8);
        add("restore(1)", STATE, x -> x.restore(1));
        add("as(0, 1)", KIND, x -> x.as(0, 1));
        add("set(0, 0, 0)", NULL, x -> x.set(0, 0, 0));
    }

    /** What is asked well in any state that has a VALLEY of a runner and a bed at least. */
    private static List<Call> everywhereTheSame() {
        asked();
        List<Call> some = new ArrayList<>();
        for (Call call : calls) {
            if (!call.name.startsWith("fits")) {
                some.add(call);
            }
        }
        calls.clear();
        return some;
    }

    private static void asked() {
        add("runner(0, n)", ASKED, (x, n) -> x.runner(0, n), 0, 1, 2, 3, 4);
        add("bed(0, n)", ASKED, (x, n) -> x.bed(0, n), 0, 1, 2, 3, 4);
        add("grinds(0, 0)", ASKED, x -> x.grinds(0, 0));
        add("flour(0, n)", ASKED, (x, n) -> x.flour(0, n), 0, 1, 60);
        add("flourOfAll(n)", ASKED, StoneWed::flourOfAll, 0, 1, 60);
        add("blocks(n)", ASKED, StoneWed::blocks, 0, 1);
        add("stable(0)", ASKED, x -> x.stable(0));
        add("most(60, n)", ASKED, (x, n) -> x.most(60, n), -1, 0, 3);
        add("moved(60, n, -1)", ASKED, (x, n) -> x.moved(60, n, -1), 0, 20, 999);
        add("moved(60, n, 3)", ASKED, (x, n) -> x.moved(60, n, 3), 0, 20, 999);
        add("dressing(60, n)", ASKED, (x, n) -> x.dressing(60, n), 0, 1);
        add("fits(0, 2, 0, 16, n)", ASKED, (x, n) -> x.fits(0, 2, 0, 16, n), 0, 1, 2);
        add("breaks(9, 3, n)", ASKED, (x, n) -> x.breaks(9, 3, n), 0, 1);
        add("drawn(60, n, 0)", ASKED, (x, n) -> x.drawn(60, n, 0), 1, 999998, 999999);
        add("drawn(60, n, 1)", ASKED, (x, n) -> x.drawn(60, n, 1), 1, 999998, 999999);
        add("kind(0)", ASKED, x -> x.kind(0));
        add("as(0, 0)", ASKED, x -> x.as(0, 0));
        add("trace(0)", ASKED, x -> x.trace(0));
        add("count(n)", ASKED, StoneWed::count, 0, 1, 2, 3, 4, 5, 6, 7);
        add("fault()", ASKED, StoneWed::fault);
        add("status()", ASKED, StoneWed::status);
    }

    /** The tape is empty behind a FAULT: so both objects read theirs, of which the second has one more to read. */
    private static void faults() {
        for (String text : new String[] {"", "m", "m1,1;b1,1,1;g1,1,1,9;x", "m1,1;b1,1,1;g1,1,1,5;"}) {
            says("7: of a FAULT all stays | " + text);
            Consumer<StoneWed> once = x -> {
                standing(x);
                x.valley();
            };
            Call again = new Call(text, FAULTS, x -> tell(x, text));
            for (int k = 0; k < Seen.PROBES.size(); k++) {
                due("of probe " + k + ", the place that changes",
                        Seen.differ(seen(once, again, Seen.PROBES.get(k)), seen(once, null, Seen.PROBES.get(k))), -1);
            }
        }
    }
}
