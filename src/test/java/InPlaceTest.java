import java.util.ArrayList;
import java.util.List;
import java.util.function.Consumer;

/** A VALLEY that is read, or restored, or reached by undoing, is as if nothing had been ahead of it. */
public final class InPlaceTest extends Due {
    private static final String MOST = "m9,0;b9,9,9;b0,8,0;b5,7,5;b1,9,3;f9,9,9,3;s0,9,0,1;g5,8,5,0;w2,2,2,2;";
    private static final String[] OTHERS = {
        "m1,9;b1,1,1;",
        "m1,9;b3,4,5;g3,5,5,9;",
        "m2,3;b1,5,2;b9,8,9;s9,3,9,1;",
        "m3,0;b0,9,0;b2,6,1;b7,7,7;o1,1,1,0;f7,8,7,9;",
        "m4,9;b6,9,6;g6,9,6,9;w6,9,6,0;o6,9,6,9;",
        "m2,3;b1,5,2;b9,8,9;b4,4,4;b5,5,5;g3,4,4,3;f0,9,0,9;s9,3,9,1;o5,5,5,9;",
    };

    public static void main(String[] args) {
        for (String other : OTHERS) {
            says("A VALLEY that is read stands in place of the one before | " + other);
            same(x -> tell(x, other), x -> {
                tell(x, MOST);
                use(x);
                tell(x, other);
            });
            says("28: The VALLEY is as an IMAGE kept it | " + other);
            same(x -> keep(x, other), x -> {
                keep(x, other);
                use(x);
                tell(x, MOST);
                use(x);
                x.restore(0);
            });
            says("13: The latest ACT is undone | " + other);
            same(x -> tell(x, other), x -> {
                tell(x, other);
                use(x);
                while (x.count(6) > 0) {
                    x.undo();
                }
            });
        }
        end();
    }

    private static void keep(StoneWed x, String text) {
        tell(x, text);
        x.image(0);
    }

    /** Fewer than 24 ACTS, and all that looks ahead; no ASK, since THE TRACE stays. */
    private static void use(StoneWed x) {
        x.days(3);
        for (int k = 0; k < 4; k++) {
            x.part(k);
            x.dress(4 + k);
            x.wed(k, 3 - k);
            x.dress(k);
            x.most(60, k);
            x.moved(60, 1, k);
            x.stable(k);
            x.flour(k, 60);
        }
        x.dressing(60, 0);
        x.breaks(5, 5, 0);
        x.drawn(60, 5, 0);
        x.blocks(0);
        x.days(2);
        due("ACTS beyond 23", Math.max(x.count(6), 23), 23);
    }

    private static void same(Consumer<StoneWed> plain, Consumer<StoneWed> afterMuch) {
        for (int k = 0; k < Seen.PROBES.size(); k++) {
            due("of probe " + k + ", the place that differs", Seen.differ(seen(plain, k), seen(afterMuch, k)), -1);
        }
    }

    private static List<Integer> seen(Consumer<StoneWed> setup, int probe) {
        StoneWed x = new StoneWed();
        setup.accept(x);
        List<Integer> seen = new ArrayList<>();
        Seen.PROBES.get(probe).look(x, seen);
        return seen;
    }
}
