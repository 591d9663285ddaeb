import java.util.List;

/** All that can be seen of an object: of two that are made alike each probe sees the same. A probe may change its object. */
final class Seen extends Due {
    interface Probe {
        void look(StoneWed x, List<Integer> seen);
    }

    static final List<Probe> PROBES = List.of(
            Seen::stones, Seen::ahead, (x, seen) -> items(x, seen, 0), (x, seen) -> items(x, seen, 4),
            Seen::lanes, Seen::actsOfRunners, Seen::actsOfBeds, Seen::images, Seen::tape);

    private Seen() {
    }

    /** The first place at which they differ; -1: none. */
    static int differ(List<Integer> a, List<Integer> b) {
        for (int k = 0; k < Math.min(a.size(), b.size()); k++) {
            if (!a.get(k).equals(b.get(k))) {
                return k;
            }
        }
        return a.size() == b.size() ? -1 : Math.min(a.size(), b.size());
    }

    private static void stones(StoneWed x, List<Integer> seen) {
        for (int what = 0; what < 8; what++) {
            seen.add(x.count(what));
        }
        for (int i = 0; i < 16; i++) {
            seen.add(x.trace(i));
        }
        for (int k = 0; k < 4; k++) {
            for (int what = 0; what < 5; what++) {
                seen.add(x.runner(k, what));
                seen.add(x.bed(k, what));
                seen.add(x.grinds(k, what));
            }
            seen.add(x.kind(k));
        }
    }

    private static void ahead(StoneWed x, List<Integer> seen) {
        for (int k = -1; k < 4; k++) {
            seen.add(x.most(3, k));
            seen.add(x.moved(3, 20, k));
            seen.add(x.stable(k));
            seen.add(x.flour(k, 9));
            seen.add(x.ask(k, 0));
        }
        for (int what = 0; what < 2; what++) {
            seen.add(x.blocks(what));
            seen.add(x.dressing(5, what));
            seen.add(x.breaks(5, 3, what));
            seen.add(x.drawn(9, 4711, what));
        }
        // What wears, and when, is seen in the end.
        seen.add(x.days(9));
        seen.add(x.flourOfAll(60));
    }

    private static void items(StoneWed x, List<Integer> seen, int from) {
        tellItems(x);
        for (int row = from; row < from + 4; row++) {
            for (int i = 0; i <= 40; i++) {
                seen.add(item(x, row, i));
            }
        }
    }

    private static void lanes(StoneWed x, List<Integer> seen) {
        for (int row = 0; row < 8; row++) {
            seen.add(x.set(row, 0, 70000));
            seen.add(x.drop(row));
        }
    }

    private static void actsOfRunners(StoneWed x, List<Integer> seen) {
        for (int act = 0; act <= 24; act++) {
            seen.add(x.undo());
            seen.add(x.count(3));
            for (int k = 0; k < 4; k++) {
                seen.add(x.runner(k, 1));
                seen.add(x.runner(k, 3));
            }
        }
    }

    private static void actsOfBeds(StoneWed x, List<Integer> seen) {
        for (int act = 0; act <= 24; act++) {
            seen.add(x.undo());
            for (int k = 0; k < 2; k++) {
                seen.add(x.bed(k, 1));
                seen.add(x.bed(k, 4));
            }
        }
    }

    private static void images(StoneWed x, List<Integer> seen) {
        for (int image = 0; image < 2; image++) {
            seen.add(x.restore(image));
            stones(x, seen);
        }
    }

    private static void tape(StoneWed x, List<Integer> seen) {
        feed(x, "1,2,3;g1,2,3,0;");
        seen.add(x.valley());
        seen.add(x.fault());
        stones(x, seen);
    }
}
