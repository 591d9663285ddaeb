import java.lang.reflect.Array;
import java.math.BigInteger;
import java.util.ArrayDeque;
import java.util.ArrayList;
import java.util.Arrays;
import java.util.Deque;
import java.util.List;
import java.util.regex.Matcher;
import java.util.regex.Pattern;

/**
 * The document told a second time, with the Java library and without regard to cost: real arrays whose
 * exceptions are the findings, real classes whose methods are the bodies, valleys copied whole.
 */
final class Oracle {
    static final int NONE = -1000000, BAD = -1000001, STATE = -1000002, FULL = -1000003;

    abstract static class Runner implements Cloneable {
        int number, rock, furrow, temper;
        Integer bed;
        List<Integer> left;

        abstract int kind();
        abstract int ground(Bed bed, int day);

        int size() { left.add(10); return rock; }
        int mark() { left.add(20); return number; }

        Runner twin() {
            try {
                return (Runner) clone();
            } catch (CloneNotSupportedException never) {
                throw new AssertionError(never);
            }
        }
    }

    static class Gritty extends Runner {
        int kind() { return 1; }
        int ground(Bed bed, int day) { return Math.max(0, furrow + bed.furrow - Math.abs(rock - bed.rock)); }
        int size() { left.add(11); int a = super.size(); return a + mark(); }
        int mark() { left.add(21); return super.mark() + furrow; }
    }

    static final class French extends Gritty {
        int kind() { return 2; }
        int ground(Bed bed, int day) { return 2 * super.ground(bed, day); }
        int size() { left.add(12); return 0 - super.size(); }
        int mark() { left.add(24); return 2 * super.mark(); }
    }

    static final class Sparking extends Gritty {
        int kind() { return 3; }
        int mark() { left.add(22); return super.mark() - 1000; }
    }

    static class Soft extends Runner {
        int kind() { return 4; }
        int ground(Bed bed, int day) { return bed.furrow / 2; }
        int size() { left.add(13); return super.size() - 100; }
        int mark() { left.add(23); int a = super.mark(); return a - size(); }
    }

    static final class Widow extends Soft {
        int kind() { return 5; }
        int ground(Bed bed, int day) { return super.ground(bed, day) + (day % 3 == 0 ? 3 : 0); }
        int size() { left.add(14); return 2 * super.size(); }
    }

    static Runner newRunner(int kind) {
        switch (kind) {
            case 1: return new Gritty();
            case 2: return new French();
            case 3: return new Sparking();
            case 4: return new Soft();
            default: return new Widow();
        }
    }

    static Runner asKind(Runner old, int kind) {
        Runner made = newRunner(kind);
        made.number = old.number;
        made.rock = old.rock;
        made.furrow = old.furrow;
        made.temper = old.temper;
        made.bed = old.bed;
        return made;
    }

    static final class Bed {
        int rock, furrow, temper, flour;
    }

    static final class World {
        int lasts, peace, day;
        List<Bed> beds = new ArrayList<>();
        List<Runner> runners = new ArrayList<>();

        World twin() {
            World other = new World();
            other.lasts = lasts;
            other.peace = peace;
            other.day = day;
            for (Bed b : beds) {
                Bed c = new Bed();
                c.rock = b.rock;
                c.furrow = b.furrow;
                c.temper = b.temper;
                c.flour = b.flour;
                other.beds.add(c);
            }
            for (Runner r : runners) {
                other.runners.add(r.twin());
            }
            return other;
        }

        Runner on(int bed) {
            for (Runner r : runners) {
                if (r.bed != null && r.bed == bed) {
                    return r;
                }
            }
            return null;
        }

        int grinds(Runner r, int bed) {
            Bed b = beds.get(bed);
            int whole = r.ground(b, day);
            return Math.abs(r.temper - b.temper) > peace ? whole / 2 : whole;
        }

        int grindsNow(Runner r) {
            return r.bed == null ? 0 : grinds(r, r.bed);
        }

        int pass() {
            int sum = 0;
            for (Runner r : runners) {
                int g = grindsNow(r);
                sum += g;
                if (r.bed != null) {
                    beds.get(r.bed).flour += g;
                }
            }
            for (Runner r : runners) {
                if (r.bed == null) {
                    continue;
                }
                Bed b = beds.get(r.bed);
                if (day % lasts == 0) {
                    r.furrow = Math.max(0, r.furrow - 1);
                    b.furrow = Math.max(0, b.furrow - 1);
                }
                if (r instanceof Sparking) {
                    b.furrow = Math.max(0, b.furrow - 1);
                }
            }
            day++;
            return sum;
        }

        int pass(int d) {
            int sum = 0;
            for (int i = 0; i < d; i++) {
                sum += pass();
            }
            return sum;
        }

        int flour() {
            return beds.stream().mapToInt(b -> b.flour).sum();
        }

        int furrows() {
            return beds.stream().mapToInt(b -> b.furrow).sum() + runners.stream().mapToInt(r -> r.furrow).sum();
        }

        int dress(int stone) {
            int had;
            if (stone < 4) {
                had = runners.get(stone).furrow;
                runners.get(stone).furrow = 9;
            } else {
                had = beds.get(stone - 4).furrow;
                beds.get(stone - 4).furrow = 9;
            }
            return had;
        }

        boolean hasStone(int stone) {
            return stone >= 0 && stone < 4 ? stone < runners.size() : stone >= 4 && stone - 4 < beds.size();
        }

        World wedded(Integer[] weddings) {
            World other = twin();
            for (int i = 0; i < weddings.length; i++) {
                other.runners.get(i).bed = weddings[i];
            }
            return other;
        }
    }

    private final Object[] rows = new Object[8];
    private final StringBuilder tape = new StringBuilder();
    private World world;
    private final World[] images = new World[2];
    private final Deque<World> acts = new ArrayDeque<>();
    private List<Integer> trace = new ArrayList<>();
    private int fault, status;

    // ---- rows

    private interface Deed {
        int done();
    }

    private int tried(Deed deed) {
        int finding;
        try {
            int answer = deed.done();
            status = 0;
            return answer;
        } catch (NullPointerException e) {
            finding = 1;
        } catch (IndexOutOfBoundsException e) {
            finding = 2;
        } catch (ClassCastException e) {
            finding = 3;
        } catch (NegativeArraySizeException e) {
            finding = 4;
        } catch (ArrayStoreException e) {
            finding = 5;
        }
        status = finding;
        return -1000010 - finding;
    }

    private static boolean in(int x, int least, int most) {
        return x >= least && x <= most;
    }

    int row(int row, int lane, int n) {
        if (!in(row, 0, 7) || !in(lane, 0, 2) || n > 40) {
            return BAD;
        }
        return tried(() -> {
            Class<?> type = lane == 0 ? byte.class : lane == 1 ? short.class : int.class;
            rows[row] = Array.newInstance(type, n);
            return n;
        });
    }

    int set(int row, int i, int v) {
        if (!in(row, 0, 7)) {
            return BAD;
        }
        return tried(() -> {
            if (rows[row] instanceof byte[]) {
                return ((byte[]) rows[row])[i] = (byte) v;
            }
            if (rows[row] instanceof short[]) {
                return ((short[]) rows[row])[i] = (short) v;
            }
            return ((int[]) rows[row])[i] = v;
        });
    }

    int copy(int a, int i, int b, int j, int n) {
        if (!in(a, 0, 7) || !in(b, 0, 7)) {
            return BAD;
        }
        return tried(() -> {
            System.arraycopy(rows[a], i, rows[b], j, n);
            return n;
        });
    }

    int drop(int row) {
        if (!in(row, 0, 7)) {
            return BAD;
        }
        return tried(() -> {
            int n = lengthOf(rows[row]);
            rows[row] = null;
            return n;
        });
    }

    private static int lengthOf(Object array) {
        if (array == null) {
            throw new NullPointerException();
        }
        return Array.getLength(array);
    }

    // ---- valleys, acts

    int feed(int letter) {
        if (!in(letter, 0, 255)) {
            return BAD;
        }
        if (tape.length() == 100) {
            return FULL;
        }
        tape.append((char) letter);
        return tape.length();
    }

    private static final class Fault extends RuntimeException {
        private static final long serialVersionUID = 1;
        final int number, place;

        Fault(int number, int place) {
            this.number = number;
            this.place = place;
        }
    }

    private List<String> tokens;
    private List<Integer> places;
    private int at;

    private String peek() {
        return tokens.get(at);
    }

    private Fault fault(int number) {
        return new Fault(number, places.get(at));
    }

    private void sign(String sign) {
        if (!peek().equals(sign)) {
            throw fault(1);
        }
        at++;
    }

    private int number(int least, int most) {
        if (!peek().matches("[0-9]{1,2}")) {
            throw fault(1);
        }
        int n = Integer.parseInt(peek());
        if (!in(n, least, most)) {
            throw fault(2);
        }
        at++;
        return n;
    }

    private World read(String text) {
        tokens = new ArrayList<>();
        places = new ArrayList<>();
        at = 0;
        Matcher m = Pattern.compile("[0-9]+|[^0-9]", Pattern.DOTALL).matcher(text);
        while (m.find()) {
            tokens.add(m.group());
            places.add(m.start());
        }
        tokens.add("end");
        places.add(text.length());
        World w = new World();
        sign("m");
        w.lasts = number(1, 9);
        sign(",");
        w.peace = number(0, 9);
        sign(";");
        do {
            if (peek().equals("b") && w.beds.size() == 4) {
                throw fault(3);
            }
            sign("b");
            Bed b = new Bed();
            b.rock = number(0, 9);
            sign(",");
            b.furrow = number(0, 9);
            sign(",");
            b.temper = number(0, 9);
            sign(";");
            w.beds.add(b);
        } while (peek().equals("b"));
        while (!peek().equals("end")) {
            int kind = peek().length() == 1 ? "gfsow".indexOf(peek()) + 1 : 0;
            if (kind == 0) {
                throw fault(1);
            }
            if (w.runners.size() == 4) {
                throw fault(3);
            }
            at++;
            Runner r = newRunner(kind);
            r.number = w.runners.size();
            r.rock = number(0, 9);
            sign(",");
            r.furrow = number(0, 9);
            sign(",");
            r.temper = number(0, 9);
            sign(",");
            int bed = number(0, 9);
            if (bed != 9) {
                if (bed >= w.beds.size() || w.on(bed) != null) {
                    at--;
                    throw fault(2);
                }
                r.bed = bed;
            }
            sign(";");
            w.runners.add(r);
        }
        return w;
    }

    int valley() {
        String text = tape.toString();
        tape.setLength(0);
        try {
            world = read(text);
            acts.clear();
            return world.runners.size();
        } catch (Fault f) {
            fault = f.number;
            return -1000100 - f.place;
        }
    }

    int fault() {
        return fault;
    }

    private void act() {
        acts.addLast(world.twin());
        if (acts.size() > 24) {
            acts.removeFirst();
        }
    }

    private boolean noRunner(int runner) {
        return world == null || !in(runner, 0, world.runners.size() - 1);
    }

    private boolean noBed(int bed) {
        return world == null || !in(bed, 0, world.beds.size() - 1);
    }

    int days(int n) {
        if (world == null) {
            return STATE;
        }
        if (!in(n, 1, 24)) {
            return BAD;
        }
        if (world.day + n > 999) {
            return FULL;
        }
        int sum = 0;
        for (int i = 0; i < n; i++) {
            act();
            sum += world.pass();
        }
        return sum;
    }

    int wed(int runner, int bed) {
        if (noRunner(runner) || noBed(bed)) {
            return BAD;
        }
        if (world.on(bed) != null) {
            return STATE;
        }
        act();
        world.runners.get(runner).bed = bed;
        return world.grindsNow(world.runners.get(runner));
    }

    int part(int runner) {
        if (noRunner(runner)) {
            return BAD;
        }
        Integer lay = world.runners.get(runner).bed;
        if (lay == null) {
            return STATE;
        }
        act();
        world.runners.get(runner).bed = null;
        return lay;
    }

    int dress(int stone) {
        if (world == null || !world.hasStone(stone)) {
            return BAD;
        }
        act();
        return world.dress(stone);
    }

    int undo() {
        if (acts.isEmpty()) {
            return STATE;
        }
        world = acts.removeLast();
        return acts.size();
    }

    private static int orNone(Integer bed) {
        return bed == null ? NONE : bed;
    }

    int runner(int runner, int what) {
        if (noRunner(runner) || !in(what, 0, 4)) {
            return BAD;
        }
        Runner r = world.runners.get(runner);
        return new int[] {r.rock, r.furrow, r.temper, orNone(r.bed), world.grindsNow(r)}[what];
    }

    int bed(int bed, int what) {
        if (noBed(bed) || !in(what, 0, 4)) {
            return BAD;
        }
        Bed b = world.beds.get(bed);
        int lies = world.on(bed) == null ? NONE : world.on(bed).number;
        return new int[] {b.rock, b.furrow, b.temper, lies, b.flour}[what];
    }

    int grinds(int runner, int bed) {
        return noRunner(runner) || noBed(bed) ? BAD : world.grinds(world.runners.get(runner), bed);
    }

    // ---- foretold

    int flour(int bed, int d) {
        if (noBed(bed) || !in(d, 0, 60)) {
            return BAD;
        }
        World w = world.twin();
        w.pass(d);
        return w.beds.get(bed).flour;
    }

    int flourOfAll(int d) {
        if (world == null) {
            return STATE;
        }
        if (!in(d, 0, 60)) {
            return BAD;
        }
        return world.flour() + world.twin().pass(d);
    }

    int blocks(int what) {
        if (world == null) {
            return STATE;
        }
        if (!in(what, 0, 1)) {
            return BAD;
        }
        List<Integer> pairs = new ArrayList<>();
        for (Runner r : world.runners) {
            for (int b = 0; b < world.beds.size(); b++) {
                Runner other = world.on(b);
                if (other == r) {
                    continue;
                }
                int would = world.grinds(r, b);
                if (would > world.grindsNow(r) && would > (other == null ? 0 : world.grindsNow(other))) {
                    pairs.add(10 * r.number + b);
                }
            }
        }
        return what == 0 ? pairs.size() : pairs.isEmpty() ? NONE : pairs.get(0);
    }

    int stable(int runner) {
        if (noRunner(runner)) {
            return BAD;
        }
        World w = world.twin();
        w.runners.forEach(r -> r.bed = null);
        List<List<Integer>> wishes = new ArrayList<>();
        for (Runner r : w.runners) {
            List<Integer> liked = new ArrayList<>();
            for (int b = 0; b < w.beds.size(); b++) {
                if (w.grinds(r, b) > 0) {
                    liked.add(b);
                }
            }
            liked.sort((a, b) -> w.grinds(r, b) - w.grinds(r, a));
            wishes.add(liked);
        }
        while (true) {
            Runner asker = null;
            for (Runner r : w.runners) {
                if (r.bed == null && !wishes.get(r.number).isEmpty()) {
                    asker = r;
                    break;
                }
            }
            if (asker == null) {
                return orNone(w.runners.get(runner).bed);
            }
            int b = wishes.get(asker.number).remove(0);
            Runner other = w.on(b);
            if (other == null) {
                asker.bed = b;
            } else if (w.grindsNow(other) < w.grinds(asker, b)) {
                other.bed = null;
                asker.bed = b;
            }
        }
    }

    private List<Integer[]> allWeddings() {
        List<Integer[]> all = new ArrayList<>();
        all.add(new Integer[0]);
        for (int i = 0; i < world.runners.size(); i++) {
            List<Integer[]> longer = new ArrayList<>();
            for (Integer[] w : all) {
                for (int b = 0; b <= world.beds.size(); b++) {
                    Integer bed = b == world.beds.size() ? null : Integer.valueOf(b);
                    if (bed == null || !Arrays.asList(w).contains(bed)) {
                        Integer[] more = Arrays.copyOf(w, i + 1);
                        more[i] = bed;
                        longer.add(more);
                    }
                }
            }
            all = longer;
        }
        return all;
    }

    int most(int d, int k) {
        if (world == null) {
            return STATE;
        }
        if (!in(d, 0, 60) || !in(k, -1, 3)) {
            return BAD;
        }
        int most = -1;
        Integer[] best = null;
        for (Integer[] w : allWeddings()) {
            int ground = world.wedded(w).pass(d);
            if (ground > most) {
                most = ground;
                best = w;
            }
        }
        return k == -1 ? most : k < best.length ? orNone(best[k]) : NONE;
    }

    int moved(int d, int q, int k) {
        if (world == null) {
            return STATE;
        }
        if (!in(d, 0, 60) || !in(q, 0, 999) || !in(k, -1, 3)) {
            return BAD;
        }
        List<Integer[]> all = allWeddings();
        for (int few = 0; few <= 4; few++) {
            for (Integer[] w : all) {
                int moves = 0;
                for (int i = 0; i < w.length; i++) {
                    moves += orNone(w[i]) == orNone(world.runners.get(i).bed) ? 0 : 1;
                }
                if (moves == few && world.wedded(w).pass(d) >= q) {
                    return k == -1 ? few : k < w.length ? orNone(w[k]) : NONE;
                }
            }
        }
        return NONE;
    }

    int dressing(int d, int what) {
        if (world == null) {
            return STATE;
        }
        if (!in(d, 0, 60) || !in(what, 0, 1)) {
            return BAD;
        }
        int most = -1, which = NONE;
        for (int stone = 0; stone < 8; stone++) {
            if (world.hasStone(stone)) {
                World w = world.twin();
                w.dress(stone);
                int ground = w.pass(d);
                if (ground > most) {
                    most = ground;
                    which = stone;
                }
            }
        }
        return what == 0 ? which : most;
    }

    private boolean isSo(Runner alone, int bed, int row, int i, int n) {
        World w = world.twin();
        w.runners.clear();
        if (alone != null) {
            Runner r = alone.twin();
            r.bed = bed;
            w.runners.add(r);
        }
        for (int day = 0; day < n; day++) {
            int had = w.beds.get(bed).flour;
            w.pass();
            if (w.beds.get(bed).flour - had != Array.getInt(rows[row], i + day)) {
                return false;
            }
        }
        return true;
    }

    int fits(int bed, int row, int i, int n, int what) {
        if (noBed(bed) || !in(row, 0, 7) || !in(n, 1, 16) || !in(what, 0, 2)) {
            return BAD;
        }
        return tried(() -> {
            java.util.Objects.checkFromIndexSize(i, n, lengthOf(rows[row]));
            int bits = 0;
            if (what == 0) {
                for (Runner r : world.runners) {
                    bits += isSo(r, bed, row, i, n) ? 1 << r.number : 0;
                }
                return bits + (isSo(null, bed, row, i, n) ? 16 : 0);
            }
            Runner lies = world.on(bed);
            if (lies == null) {
                return 0;
            }
            for (int guess = what == 1 ? 1 : 0; guess <= (what == 1 ? 5 : 9); guess++) {
                Runner r = what == 1 ? asKind(lies, guess) : lies.twin();
                r.rock = what == 2 ? guess : r.rock;
                bits += isSo(r, bed, row, i, n) ? 1 << guess : 0;
            }
            return bits;
        });
    }

    private BigInteger ways(List<Integer> ground, int from, int sum, int q, int c) {
        if (from == ground.size()) {
            return sum >= q ? BigInteger.ONE : BigInteger.ZERO;
        }
        BigInteger broken = ways(ground, from + 1, sum, q, c).multiply(BigInteger.valueOf(c));
        BigInteger whole = ways(ground, from + 1, sum + ground.get(from), q, c).multiply(BigInteger.valueOf(10 - c));
        return broken.add(whole);
    }

    int breaks(int q, int c, int what) {
        if (world == null) {
            return STATE;
        }
        if (!in(q, 0, 999) || !in(c, 0, 10) || !in(what, 0, 1)) {
            return BAD;
        }
        List<Integer> ground = new ArrayList<>();
        for (Runner r : world.runners) {
            if (r.bed != null) {
                ground.add(world.grindsNow(r));
            }
        }
        BigInteger above = ways(ground, 0, 0, q, c);
        BigInteger below = BigInteger.TEN.pow(ground.size());
        BigInteger common = above.gcd(below);
        return (what == 0 ? above : below).divide(common).intValueExact();
    }

    int drawn(int n, int seed, int what) {
        if (world == null) {
            return STATE;
        }
        if (!in(n, 0, 60) || !in(seed, 1, 999999) || !in(what, 0, 1)) {
            return BAD;
        }
        World w = world.twin();
        BigInteger x = BigInteger.valueOf(seed);
        int ground = 0;
        for (int i = 0; i < n; i++) {
            x = x.multiply(BigInteger.valueOf(16807)).mod(BigInteger.valueOf(2147483647));
            int y = x.intValueExact();
            if (y % 3 == 0 && !w.runners.isEmpty()) {
                w.dress(y % w.runners.size());
            } else if (y % 3 == 1) {
                w.dress(4 + y % w.beds.size());
            }
            ground += w.pass();
        }
        return what == 0 ? ground : w.furrows();
    }

    int image(int k) {
        if (!in(k, 0, 1)) {
            return BAD;
        }
        if (world == null) {
            return STATE;
        }
        images[k] = world.twin();
        return 1;
    }

    int restore(int k) {
        if (!in(k, 0, 1)) {
            return BAD;
        }
        if (images[k] == null) {
            return STATE;
        }
        world = images[k].twin();
        acts.clear();
        return 1;
    }

    // ---- asked

    int kind(int runner) {
        return noRunner(runner) ? BAD : world.runners.get(runner).kind();
    }

    private static final Class<?>[] KINDS =
            {Runner.class, Gritty.class, French.class, Sparking.class, Soft.class, Widow.class};

    int as(int runner, int kind) {
        if (noRunner(runner) || !in(kind, 0, 5)) {
            return BAD;
        }
        return tried(() -> ((Runner) KINDS[kind].cast(world.runners.get(runner))).number);
    }

    int ask(int runner, int what) {
        if (noRunner(runner) || !in(what, 0, 1)) {
            return BAD;
        }
        trace = new ArrayList<>();
        Runner r = world.runners.get(runner);
        r.left = trace;
        int answer = what == 0 ? r.size() : r.mark();
        r.left = null;
        return answer;
    }

    int trace(int i) {
        return in(i, 0, Math.min(trace.size(), 16) - 1) ? trace.get(i) : NONE;
    }

    int count(int what) {
        switch (what) {
            case 0: return (int) Arrays.stream(rows).filter(r -> r != null).count();
            case 1: return world == null ? 0 : world.beds.size();
            case 2: return world == null ? 0 : world.runners.size();
            case 3: return world == null ? 0 : world.day;
            case 4: return world == null ? 0 : world.flour();
            case 5: return world == null ? 0 : (int) world.runners.stream().filter(r -> r.bed != null).count();
            case 6: return acts.size();
            case 7: return tape.length();
            default: return BAD;
        }
    }

    int status() {
        return status;
    }
}
