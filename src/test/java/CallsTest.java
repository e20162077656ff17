import java.util.Arrays;
import java.util.Map;
import java.util.Set;
import java.util.TreeMap;
import java.util.TreeSet;

/**
 * What of LANGUAGE.md can be seen from the compiled class: which functions of the library it calls
 * (rule 4), that it neither throws nor catches (6), and how deep its calls go (8, 11).
 */
public final class CallsTest {
    private static final int DEEPEST = 8;
    private static final int MOST_OPEN = 300;
    private static final int LEVELS = 40;
    private static final Set<String> LIBRARY = Set.of("java.lang.Object.<init>", "java.lang.Math.max",
            "java.lang.Math.min", "java.lang.System.arraycopy", "java.util.Arrays.fill", "java.lang.String.length",
            "java.lang.String.charAt");
    private static final Bytecode code = new Bytecode();
    private static final Map<String, Integer> depths = new TreeMap<>();
    private static int wrong = 0;

    private static void say(String what) {
        wrong++;
        System.out.println(what);
    }

    private static boolean isOwn(String method) {
        return code.calls.containsKey(method);
    }

    private static String nameOf(String method) {
        return method.substring(0, method.indexOf('('));
    }

    private static void checkLibrary() {
        for (String caller : code.calls.keySet()) {
            for (String called : code.calls.get(caller)) {
                if (!isOwn(called) && !LIBRARY.contains(nameOf(called))) say(caller + " calls " + called);
            }
        }
    }

    /** All that a method calls, by others too. */
    private static TreeSet<String> reached(String from) {
        TreeSet<String> all = new TreeSet<>();
        TreeSet<String> next = new TreeSet<>(code.calls.get(from));
        while (!next.isEmpty()) {
            String one = next.pollFirst();
            if (all.add(one) && isOwn(one)) next.addAll(code.calls.get(one));
        }
        return all;
    }

    private static boolean isOneAnother(String a, String b) {
        return isOwn(a) && isOwn(b) && reached(a).contains(b) && reached(b).contains(a);
    }

    /** How many calls stand open at most, those that call one another (a recursion) as one. */
    private static int depthOf(String method) {
        if (!isOwn(method)) return 1;
        Integer known = depths.get(method);
        if (known != null) return known;
        TreeSet<String> together = new TreeSet<>();
        together.add(method);
        for (String other : code.calls.keySet()) {
            if (isOneAnother(method, other)) together.add(other);
        }
        int below = 0;
        for (String one : together) {
            for (String called : code.calls.get(one)) {
                if (!together.contains(called)) below = Math.max(below, depthOf(called));
            }
        }
        depths.put(method, 1 + below);
        return 1 + below;
    }

    private static void checkDepths() {
        int deepest = 0;
        int recursive = 0;
        for (String method : code.calls.keySet()) {
            int depth = depthOf(method);
            deepest = Math.max(deepest, depth);
            if (depth > DEEPEST) say(method + " goes " + depth + " deep");
            if (reached(method).contains(method)) recursive++;
        }
        if (deepest < 5) say("no call goes deep, so the class was not read well");
        // Ten levels of brackets or of a game, each through all the methods that call themselves.
        if (recursive * 10 + LEVELS > MOST_OPEN) say(recursive + " methods are recursive");
        System.out.println("the deepest call goes " + deepest + " deep, " + recursive + " methods are recursive");
    }

    public static void main(String[] args) throws Exception {
        code.read(OutgrownCoats.class);
        for (Class<?> c : Arrays.asList(OutgrownCoats.class.getDeclaredClasses())) code.read(c);
        checkLibrary();
        for (String what : code.forbidden) say(what);
        checkDepths();
        System.out.println(wrong == 0 ? "the calls are as LANGUAGE.md has them" : wrong + " rules broken");
        if (wrong != 0) System.exit(1);
    }
}
