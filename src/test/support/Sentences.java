import java.lang.reflect.Method;
import java.lang.reflect.Modifier;
import java.util.TreeMap;

/**
 * What the tests of the document's boundary sentences share. A test is a static method without
 * parameters whose name begins with p and its promise's number; it works on a new town, x.
 */
abstract class Sentences {
    static final int NONE = OutgrownCoats.NONE;
    static final int NOTHING = OutgrownCoats.NOTHING;
    static OutgrownCoats x = new OutgrownCoats();
    private static String test = "";
    private static int wrong = 0;

    static void due(String what, long got, long want) {
        if (got != want) {
            wrong++;
            System.out.println(test + ": " + what + " answered " + got + ", due is " + want);
        }
    }

    static void fresh() {
        x = new OutgrownCoats();
    }

    /** Puts a text, or bytes, on the empty TAPE. */
    static void tape(String text) {
        x.end(0);
        for (int i = 0; i < text.length(); i += 20) {
            x.feed(four(text, i), four(text, i + 4), four(text, i + 8), four(text, i + 12), four(text, i + 16));
        }
        due("bytes on the TAPE", x.end(text.length()), text.length());
    }

    private static int four(String text, int at) {
        int number = 0;
        for (int k = at; k < at + 4; k++) {
            number = number << 8 | (k < text.length() ? text.charAt(k) : 0);
        }
        return number;
    }

    static String bytes(int... numbers) {
        StringBuilder text = new StringBuilder();
        for (int number : numbers) {
            text.append((char) number);
        }
        return text.toString();
    }

    static int row(int... numbers) {
        tape(bytes(numbers));
        return x.row();
    }

    static int law(String text) {
        tape(text);
        return x.law();
    }

    static int orders(String text) {
        tape(text);
        return x.orders();
    }

    /** A LAW that is in FORCE then; it takes the place of one from before, if there is one. */
    static void rule(String text) {
        int number = law(text);
        due("law \"" + text + "\" is read, so it", number < 0 ? number : 0, 0);
        x.force(number);
    }

    static void lawFault(String text, int place) {
        due("law \"" + text + "\"", law(text), -6);
        due("fault of law \"" + text + "\"", x.fault(), place);
    }

    static void ordersFault(String text, int place) {
        due("orders \"" + text + "\"", orders(text), -6);
        due("fault of orders \"" + text + "\"", x.fault(), place);
    }

    static String many(String text, int times) {
        return text.repeat(times);
    }

    /** Runs all tests of a class, each on a new town, and ends with exit code 1 if one failed. */
    static void runAll(Class<?> tests) throws Exception {
        TreeMap<String, Method> found = new TreeMap<>();
        for (Method m : tests.getDeclaredMethods()) {
            if (m.getName().matches("p\\d\\d\\w+") && Modifier.isStatic(m.getModifiers()) && m.getParameterCount() == 0) {
                found.put(m.getName(), m);
            }
        }
        for (Method m : found.values()) {
            test = "promise " + Integer.parseInt(m.getName().substring(1, 3)) + " (" + m.getName() + ")";
            fresh();
            m.setAccessible(true);
            m.invoke(null);
        }
        System.out.println(found.size() + " tests, " + wrong + " answers are not as due");
        if (wrong != 0 || found.isEmpty()) {
            System.exit(1);
        }
    }
}
