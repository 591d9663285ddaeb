import java.io.IOException;
import java.lang.management.ManagementFactory;
import java.lang.reflect.Constructor;
import java.lang.reflect.Field;
import java.lang.reflect.Method;
import java.lang.reflect.Modifier;
import java.nio.file.Files;
import java.nio.file.Path;
import java.util.ArrayDeque;
import java.util.Deque;
import java.util.List;
import java.util.Map;
import java.util.Set;
import java.util.TreeMap;
import java.util.TreeSet;
import java.util.regex.Matcher;
import java.util.regex.Pattern;

/** What can be seen of shared/LANGUAGE.md from outside: the face, the words of the source, the room taken. */
public final class LanguageTest {
    private static final Set<String> FACE = new TreeSet<>(List.of(
            "row(3)", "set(3)", "copy(5)", "drop(1)", "feed(1)", "valley(0)", "fault(0)", "days(1)", "wed(2)",
            "part(1)", "dress(1)", "undo(0)", "runner(2)", "bed(2)", "grinds(2)", "flour(2)", "flourOfAll(1)",
            "blocks(1)", "stable(1)", "most(2)", "moved(3)", "dressing(2)", "fits(5)", "breaks(3)", "drawn(3)",
            "image(1)", "restore(1)", "kind(1)", "as(2)", "ask(2)", "trace(1)", "count(1)", "status(0)"));
    private static final Set<String> CONSTANTS = Set.of("NONE", "BAD", "STATE", "FULL");
    private static final Set<String> LIBRARY = Set.of("Arrays.fill", "Arrays.copyOf", "Arrays.copyOfRange",
            "System.arraycopy", "Math.abs", "Math.max", "Math.min", "Math.floorDiv", "Math.floorMod");
    private static final String[] NOT_WRITTEN = {
            "\\bthrow\\b", "\\btry\\b", "\\bcatch\\b", "\\bsynchronized\\b", "\\bassert\\b", "->", "::",
            "\\bnew\\s+\\w+\\s*\\([^)]*\\)\\s*\\{", "\\bpackage\\b", "\\bObject\\b", "Exact\\b",
            "\\bthis\\b(?!\\.)", "\\b(double|float)\\b", "\\b(equals|hashCode|toString)\\b"};

    private static boolean good = true;

    public static void main(String[] args) throws Exception {
        face();
        for (Class<?> inside : StoneWed.class.getDeclaredClasses()) {
            inside(inside);
        }
        source();
        room();
        if (!good) {
            System.exit(1);
        }
        System.out.println("the language is kept to");
    }

    private static void check(boolean so, String what) {
        if (!so) {
            good = false;
            System.out.println("not so: " + what);
        }
    }

    private static void face() {
        Class<StoneWed> type = StoneWed.class;
        check(Modifier.isPublic(type.getModifiers()) && Modifier.isFinal(type.getModifiers()), "public and final");
        Set<String> methods = new TreeSet<>();
        Set<String> names = new TreeSet<>();
        for (Method m : type.getDeclaredMethods()) {
            if (Modifier.isPublic(m.getModifiers())) {
                check(m.getReturnType() == int.class, m.getName() + " gives an int");
                methods.add(m.getName() + "(" + m.getParameterCount() + ")");
                names.add(m.getName());
            }
        }
        check(methods.equals(FACE), "the methods are " + FACE);
        for (Method m : type.getDeclaredMethods()) {
            boolean open = Modifier.isPublic(m.getModifiers());
            check(open || Modifier.isPrivate(m.getModifiers()) && !names.contains(m.getName()), m + " is private");
        }
        for (Constructor<?> c : type.getDeclaredConstructors()) {
            check(Modifier.isPublic(c.getModifiers()) && c.getParameterCount() == 0, "one constructor");
        }
        for (Field f : type.getDeclaredFields()) {
            check(Modifier.isPrivate(f.getModifiers()) != CONSTANTS.contains(f.getName()), f + " is open or not");
        }
        fields(type);
        check(type.getDeclaredClasses().length <= 12, "some twelve classes");
    }

    private static void inside(Class<?> inside) {
        check(Modifier.isStatic(inside.getModifiers()), inside + " is static");
        check(!Modifier.isPublic(inside.getModifiers()), inside + " is not public");
        fields(inside);
        for (Method m : inside.getDeclaredMethods()) {
            check(m.getParameterCount() <= 7, m + " has at most seven parameters");
            check(FACE.stream().noneMatch(open -> open.startsWith(m.getName() + "(")), m + " bears a public name");
        }
    }

    private static void fields(Class<?> type) {
        int own = 0;
        for (Field f : type.getDeclaredFields()) {
            boolean fixed = Modifier.isStatic(f.getModifiers());
            own += fixed ? 0 : 1;
            check(!fixed || Modifier.isFinal(f.getModifiers()), f + " is final");
        }
        check(own <= 20, type + " has at most twenty fields");
    }

    private static void source() throws IOException {
        String text = Files.readString(Path.of("src/main/java/StoneWed.java"));
        String code = text.replaceAll("(?s)/\\*.*?\\*/", "").replaceAll("//[^\n]*", "");
        for (String word : NOT_WRITTEN) {
            Matcher m = Pattern.compile(word).matcher(code);
            check(!m.find(), "the source has none of " + word);
        }
        check(code.chars().allMatch(c -> c < 127), "plain signs alone");
        Matcher imports = Pattern.compile("import ([\\w.]+);").matcher(code);
        while (imports.find()) {
            check(Set.of("java.util.Arrays", "java.util.ArrayList", "java.util.List").contains(imports.group(1)),
                    imports.group());
        }
        library(code);
        methods(code);
    }

    private static void methods(String code) {
        // A method of the file ends with the brace that stands as far in as its head.
        Matcher methods = Pattern.compile(
                "(?m)^( {4}| {8})(?! )([^\n(]*?)(\\w+)\\([^\n]*\\) \\{\n((?s:.*?)\n)?\\1\\}$").matcher(code);
        Map<String, Set<String>> calls = new TreeMap<>();
        while (methods.find()) {
            String name = methods.group(3);
            check(methods.group().lines().count() <= 60, "some sixty lines: " + name);
            Set<String> called = new TreeSet<>();
            Matcher call = Pattern.compile("(\\bnew )?\\b(\\w+)\\(").matcher(methods.group(4) == null ? "" : methods.group(4));
            while (call.find()) {
                called.add(call.group(2));
            }
            check(!called.contains(name) || methods.group(2).contains("private static"), name + " calls itself, but is not static");
            check(calls.put(name, called) == null, name + " is the name of one method alone, so that calls can be told apart");
        }
        check(calls.size() > FACE.size(), "the methods of the source are found");
        for (String open : calls.keySet()) {
            int deep = deepest(open, calls, new ArrayDeque<>());
            check(deep <= 8, "at most eight deep, not " + deep + " from " + open);
        }
    }

    /** How many calls stand open at once at most, a recursion's own turns counted once. */
    private static int deepest(String name, Map<String, Set<String>> calls, Deque<String> open) {
        int below = 0;
        open.push(name);
        for (String called : calls.getOrDefault(name, Set.of())) {
            if (!open.contains(called) && !Set.of("if", "for", "while", "switch").contains(called)) {
                below = Math.max(below, deepest(called, calls, open));
            }
        }
        open.pop();
        return below + 1;
    }

    private static void library(String code) {
        Set<String> own = new TreeSet<>();
        for (Class<?> inside : StoneWed.class.getDeclaredClasses()) {
            own.add(inside.getSimpleName());
        }
        Matcher uses = Pattern.compile("\\b([A-Z][a-z]\\w*)\\.\\w+").matcher(code);
        while (uses.find()) {
            check(own.contains(uses.group(1)) || LIBRARY.contains(uses.group()), "the library has " + uses.group());
        }
    }

    /** An object makes its rows at once: 511 calls after that make next to nothing. */
    private static void room() {
        com.sun.management.ThreadMXBean threads =
                (com.sun.management.ThreadMXBean) ManagementFactory.getThreadMXBean();
        long id = Thread.currentThread().getId();
        threads.getThreadAllocatedBytes(id);
        long ahead = threads.getThreadAllocatedBytes(id);
        StoneWed x = new StoneWed();
        long made = threads.getThreadAllocatedBytes(id);
        callAll(x);
        long called = threads.getThreadAllocatedBytes(id);
        check(made - ahead < 20000, "an object takes little room, not " + (made - ahead));
        check(called - made < 2000, "calls take next to none, not " + (called - made));
    }

    private static void callAll(StoneWed x) {
        String text = "m2,3;b1,5,2;b9,8,9;b1,1,1;b2,2,2;g3,4,4,0;f0,9,0,9;s9,3,9,1;o5,5,5,9;";
        for (int i = 0; i < text.length(); i++) {
            x.feed(text.charAt(i));
        }
        x.valley();
        for (int turn = 0; turn < 10; turn++) {
            x.row(0, 2, 40);
            x.set(0, 0, 7);
            x.copy(0, 0, 0, 1, 9);
            x.fits(0, 0, 0, 16, 0);
            x.fits(0, 0, 0, 16, 1);
            x.fits(0, 0, 0, 16, 2);
            x.drop(0);
            x.days(24);
            x.part(0);
            x.wed(0, 0);
            x.dress(4);
            x.undo();
            x.flour(0, 60);
            x.flourOfAll(60);
            x.blocks(1);
            x.stable(3);
            x.most(60, 3);
            x.moved(60, 99, 3);
            x.dressing(60, 1);
            x.breaks(9, 3, 0);
            x.drawn(60, 7, 1);
            x.image(0);
            x.restore(0);
            x.ask(3, 1);
            x.trace(0);
        }
    }
}
