import java.lang.reflect.Method;
import java.lang.reflect.Modifier;
import java.util.Arrays;
import java.util.Comparator;
import java.util.List;
import java.util.Set;

/** Each call with all numbers around all bounds, put together in all ways, in several states: as Oracle answers. */
public final class GridTest {
    private static final int LEAST = Integer.MIN_VALUE, GREATEST = Integer.MAX_VALUE;
    private static final int CALLS = 512;
    private static final String FOUR = "m2,3;b1,5,2;b9,8,9;g3,4,4,0;f0,9,0,9;s9,3,9,1;o5,5,5,9;";

    // The more numbers a call takes, the fewer of each.
    private static final int[] FOR_ONE = {LEAST, LEAST + 1, LEAST + 4, -1000000, -256, -41, -40, -25, -8, -5, -4, -3, -2, -1,
        0, 1, 2, 3, 4, 5, 6, 7, 8, 9, 10, 11, 15, 16, 17, 23, 24, 25, 39, 40, 41, 59, 60, 61, 99, 100, 101, 109, 255, 256,
        998, 999, 1000, 999999, 1000000, GREATEST - 1, GREATEST};
    private static final int[] FOR_THREE = {LEAST, -2, -1, 0, 1, 2, 3, 4, 5, 7, 8, 10, 11, 18, 19, 40, 41, 60, 61, 255, 256,
        999, 1000, 999999, 1000000, GREATEST};
    private static final int[] FOR_FIVE = {LEAST, -1, 0, 1, 2, 3, 4, 7, 8, 16, 17, 40, 41, GREATEST};

    // What these change would soon be all that is left to ask: so another object is made behind each.
    private static final Set<String> LASTING = Set.of("row", "drop", "feed", "valley", "days", "wed", "part", "dress", "undo",
            "image", "restore");

    private final String state;
    private StoneWed program;
    private Oracle oracle;
    private int calls;
    private long answers;

    private GridTest(String state) {
        this.state = state;
    }

    public static void main(String[] args) throws Exception {
        long answers = 0;
        for (String state : List.of("new", "rows", "standing", "full", "one")) {
            GridTest grid = new GridTest(state);
            for (Method m : face()) {
                grid.make();
                grid.tryAll(m, new int[m.getParameterCount()], 0);
            }
            answers += grid.answers;
        }
        System.out.println(answers + " answers are the oracle's");
    }

    private static Method[] face() {
        Method[] face = Arrays.stream(StoneWed.class.getDeclaredMethods())
                .filter(m -> Modifier.isPublic(m.getModifiers()))
                .toArray(Method[]::new);
        Arrays.sort(face, Comparator.comparing(Method::getName));
        return face;
    }

    private void tryAll(Method m, int[] numbers, int at) throws Exception {
        if (at == numbers.length) {
            ask(m, numbers);
            return;
        }
        int[] all = numbers.length < 3 ? FOR_ONE : numbers.length == 3 ? FOR_THREE : FOR_FIVE;
        for (int number : all) {
            numbers[at] = number;
            tryAll(m, numbers, at + 1);
        }
    }

    private void ask(Method m, int[] numbers) throws Exception {
        if (calls >= CALLS) {
            make();
        }
        int answer = answer(m, numbers);
        answers++;
        if (LASTING.contains(m.getName()) && answer > StoneWed.NONE) {
            make();
        }
    }

    private int answer(Method m, int... numbers) throws Exception {
        calls++;
        Object[] values = Arrays.stream(numbers).boxed().toArray();
        int got = (int) m.invoke(program, values);
        int due = (int) Oracle.class.getDeclaredMethod(m.getName(), m.getParameterTypes()).invoke(oracle, values);
        if (got != due) {
            System.out.println(state + ": " + m.getName() + Arrays.toString(numbers) + " answered " + got + ", due is " + due);
            System.exit(1);
        }
        return got;
    }

    private void call(String name, int... numbers) throws Exception {
        Class<?>[] types = new Class<?>[numbers.length];
        Arrays.fill(types, int.class);
        answer(StoneWed.class.getMethod(name, types), numbers);
    }

    private void feed(String text) throws Exception {
        for (int i = 0; i < text.length(); i++) {
            call("feed", text.charAt(i));
        }
    }

    private void make() throws Exception {
        program = new StoneWed();
        oracle = new Oracle();
        calls = 0;
        switch (state) {
            case "rows": rows(); break;
            case "standing": standing(); break;
            case "full": full(); break;
            case "one": one(); break;
            default: break;
        }
    }

    private void rows() throws Exception {
        call("row", 0, 0, 3);
        call("row", 1, 1, 17);
        call("row", 2, 2, 40);
        call("row", 3, 2, 16);
        call("row", 4, 0, 0);
        call("row", 7, 0, 17);
        for (int i = 0; i < 16; i++) {
            call("set", 7, i, 2 + i);
        }
        feed("m1,1;b");
    }

    private void standing() throws Exception {
        feed(FOUR);
        call("valley");
        call("image", 1);
        call("dress", 4);
        call("days", 1);
        call("ask", 1, 0);
        rows();
        call("as", 0, 2);
    }

    private void full() throws Exception {
        feed("m1,9;b0,5,0;b0,5,0;b0,5,0;b0,5,0;w0,1,0,0;w0,1,0,1;w0,1,0,2;w0,1,0,3;");
        call("valley");
        for (int passed = 0; passed < 984; passed += 24) {
            call("days", 24);
        }
        call("days", 15);
        call("image", 0);
        for (int row = 0; row < 8; row++) {
            call("row", row, row % 3, 5 * row);
        }
        feed(";".repeat(100));
    }

    private void one() throws Exception {
        feed("m9,0;b5,4,3;g4,3,2,9;");
        call("valley");
        rows();
    }
}
