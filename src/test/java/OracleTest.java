import java.lang.reflect.Method;
import java.lang.reflect.Modifier;
import java.util.ArrayList;
import java.util.Arrays;
import java.util.Comparator;
import java.util.List;
import java.util.Map;
import java.util.Random;
import java.util.TreeMap;

/** Long runs of calls, chosen with fixed seeds, on StoneWed and on Oracle: each answer must be the same. */
public final class OracleTest {
    private static final int RUNS = 4000, CALLS = 512;
    private static final Map<String, Integer> GOOD = new TreeMap<>();

    private final Random random;
    private final StoneWed program = new StoneWed();
    private final Oracle oracle = new Oracle();
    private final List<String> told = new ArrayList<>();
    private int calls;

    private OracleTest(long seed) {
        random = new Random(seed);
    }

    public static void main(String[] args) throws Exception {
        Method[] face = face();
        for (int run = 0; run < RUNS; run++) {
            new OracleTest(run).play(face);
        }
        for (Method m : face) {
            // A promise that random calls hardly ever meet would only seem to be tested.
            if (GOOD.getOrDefault(m.getName(), 0) < 1000) {
                System.out.println(m.getName() + " was answered too seldom: " + GOOD);
                System.exit(1);
            }
        }
        System.out.println(RUNS + " runs answered as the oracle does, with good answers so often: " + GOOD);
    }

    private static Method[] face() {
        Method[] face = Arrays.stream(StoneWed.class.getDeclaredMethods())
                .filter(m -> Modifier.isPublic(m.getModifiers()))
                .toArray(Method[]::new);
        Arrays.sort(face, Comparator.comparing(Method::getName));
        return face;
    }

    private void play(Method[] face) throws Exception {
        if (random.nextInt(8) != 0) {
            tellValley();
        }
        while (calls < CALLS) {
            int turn = random.nextInt(60);
            if (turn == 0) {
                tellValley();
            } else if (turn == 1) {
                tellFit();
            } else if (turn < 4) {
                call("days", 1 + random.nextInt(24));
            } else {
                int m = random.nextInt(face.length);
                if (face[m].getName().equals("valley") && random.nextInt(4) != 0) {
                    continue;
                }
                call(face[m].getName(), arguments(face[m].getName(), face[m].getParameterCount()));
            }
        }
    }

    private void tellValley() throws Exception {
        if (random.nextInt(3) != 0) {
            // What random calls fed would spoil the text.
            call("valley");
        }
        String text = text();
        if (random.nextInt(4) == 0) {
            text = spoiled(text);
        }
        for (int i = 0; i < text.length(); i++) {
            call("feed", text.charAt(i));
        }
        call("valley");
        call("fault");
    }

    private String text() {
        StringBuilder text = new StringBuilder();
        text.append('m').append(1 + random.nextInt(9)).append(',').append(figure()).append(';');
        int beds = 1 + random.nextInt(4);
        for (int b = 0; b < beds; b++) {
            text.append('b').append(stone()).append(';');
        }
        int runners = random.nextInt(5);
        int taken = 0;
        for (int r = 0; r < runners; r++) {
            int bed = random.nextInt(beds + 1);
            if (bed == beds || (taken >> bed & 1) == 1) {
                bed = 9;
            } else {
                taken |= 1 << bed;
            }
            text.append("gfsow".charAt(random.nextInt(5))).append(stone()).append(',').append(bed).append(';');
        }
        return text.toString();
    }

    private String stone() {
        return figure() + "," + figure() + "," + figure();
    }

    private String figure() {
        int figure = random.nextInt(10);
        return random.nextInt(12) == 0 ? "0" + figure : "" + figure;
    }

    private String spoiled(String text) {
        String signs = "mbgfsowxz,;0123456789 A\u00e9";
        int at = random.nextInt(text.length() + 1);
        String some = "" + signs.charAt(random.nextInt(signs.length()));
        switch (random.nextInt(5)) {
            case 0: return text.substring(0, at) + some + text.substring(at);
            case 1: return text.substring(0, at);
            case 2: return text.substring(0, at) + some + text.substring(Math.min(at + 1, text.length()));
            case 3: return text + "b1,2,3;";
            default: return text + "g1,2,3,9;o1,1,1,9;f1,1,1,9;g1,2,3,9;s1,1,1,9;";
        }
    }

    /** A row of what a stone would grind, so that fits() has something to find. */
    private void tellFit() throws Exception {
        int bed = random.nextInt(4);
        int runner = random.nextInt(4);
        int row = random.nextInt(8);
        int n = 1 + random.nextInt(16);
        if (oracle.count(1) <= bed || oracle.count(2) <= runner || calls > CALLS - 40) {
            return;
        }
        call("part", runner);
        call("wed", runner, bed);
        call("row", row, random.nextInt(3), 40);
        int had = oracle.flour(bed, 0);
        for (int day = 1; day <= n; day++) {
            int has = oracle.flour(bed, day);
            call("set", row, day, has - had);
            had = has;
        }
        int fewer = 1 + random.nextInt(n);
        for (int what = 0; what < 3; what++) {
            call("fits", bed, row, 1, fewer, what);
        }
    }

    private int[] arguments(String name, int many) {
        int[] arguments = new int[many];
        for (int i = 0; i < many; i++) {
            arguments[i] = argument(name, i);
        }
        return arguments;
    }

    private int argument(String name, int i) {
        if (random.nextInt(25) == 0) {
            int[] odd = {-1, -2, Integer.MIN_VALUE, Integer.MAX_VALUE, 256, 61, 60, 1000, 999, 41, 40, 17, 16, 8, 1000000, 0};
            return odd[random.nextInt(odd.length)];
        }
        switch (name + i) {
            case "row2": return random.nextInt(43) - 1;
            case "set1": case "copy1": case "copy3": case "copy4": case "fits2":
                return random.nextInt(random.nextInt(3) != 0 ? 5 : 42) - (random.nextInt(8) == 0 ? 1 : 0);
            case "set2": return random.nextInt(4) == 0 ? random.nextInt() : random.nextInt(40);
            case "feed0":
                return random.nextInt(4) == 0 ? random.nextInt(256) : "mb;,0123456789gfsow".charAt(random.nextInt(19));
            case "days0": return random.nextInt(random.nextInt(4) == 0 ? 26 : 4);
            case "dress0": return random.nextInt(9);
            case "flour1": case "flourOfAll0": case "most0": case "moved0": case "dressing0": case "drawn0":
                return random.nextInt(random.nextInt(3) == 0 ? 62 : 6);
            case "moved1": case "breaks0": return random.nextInt(random.nextInt(4) == 0 ? 1002 : 60);
            case "most1": case "moved2": return random.nextInt(6) - 1;
            case "fits3": return random.nextInt(random.nextBoolean() ? 4 : 19) - 1;
            case "fits4": return random.nextInt(4);
            case "breaks1": return random.nextInt(12);
            case "drawn1": return random.nextInt(random.nextBoolean() ? 10 : 1000002);
            case "as1": return random.nextInt(7);
            case "copy0": case "copy2": case "row0": case "set0": case "fits1": return random.nextInt(random.nextInt(6) == 0 ? 9 : 3);
            case "count0": case "drop0": return random.nextInt(9);
            case "trace0": return random.nextInt(8);
            case "runner1": case "bed1": return random.nextInt(6);
            case "row1": return random.nextInt(4);
            case "image0": case "restore0": case "ask1": case "drawn2": case "breaks2": case "dressing1": case "blocks0":
                return random.nextInt(3);
            default: return random.nextInt(5);
        }
    }

    private void call(String name, int... arguments) throws Exception {
        calls++;
        Class<?>[] types = new Class<?>[arguments.length];
        Arrays.fill(types, int.class);
        Object[] values = Arrays.stream(arguments).boxed().toArray();
        int due = (int) Oracle.class.getDeclaredMethod(name, types).invoke(oracle, values);
        int got = (int) StoneWed.class.getMethod(name, types).invoke(program, values);
        told.add(name + Arrays.toString(arguments) + " " + got);
        if (got != due) {
            told.forEach(System.out::println);
            System.out.println("due is " + due);
            System.exit(1);
        }
        if (got > StoneWed.NONE) {
            GOOD.merge(name, 1, Integer::sum);
        }
    }
}
