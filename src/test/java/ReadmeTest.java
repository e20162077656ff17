import java.lang.reflect.Method;
import java.lang.reflect.Modifier;
import java.nio.file.Files;
import java.nio.file.Path;
import java.util.TreeSet;
import java.util.regex.Matcher;
import java.util.regex.Pattern;

/** The calls that README.md shows, each with the answer that it shows, one behind the other. */
public final class ReadmeTest extends Sentences {
    private static final Pattern CALL = Pattern.compile("town\\.(\\w+)\\(([-\\d, ]*)\\); *// (-?\\d+)(:.*)?");
    private static final Pattern TEXT = Pattern.compile("tape\\(town, \"([^\"]*)\"\\);");
    private static final TreeSet<String> shown = new TreeSet<>();
    private static int calls = 0;
    private static int wrong = 0;

    private static void call(String name, String arguments, long want) throws Exception {
        String[] given = arguments.isEmpty() ? new String[0] : arguments.split(", *");
        Object[] numbers = new Object[given.length];
        for (int i = 0; i < given.length; i++) numbers[i] = Integer.parseInt(given[i]);
        long got = NOTHING;
        for (Method m : OutgrownCoats.class.getMethods()) {
            if (m.getName().equals(name) && m.getParameterCount() == numbers.length) got = ((Number) m.invoke(x, numbers)).longValue();
        }
        calls++;
        shown.add(name);
        if (got != want) {
            wrong++;
            System.out.println(name + "(" + arguments + ") answered " + got + ", README.md has " + want);
        }
    }

    private static void read(String line) throws Exception {
        Matcher call = CALL.matcher(line);
        Matcher text = TEXT.matcher(line);
        if (call.matches()) {
            call(call.group(1), call.group(2), Long.parseLong(call.group(3)));
        } else if (text.matches()) {
            tape(text.group(1));
        } else if (line.equals("OutgrownCoats town = new OutgrownCoats();")) {
            fresh();
        } else if (line.startsWith("town.") || line.startsWith("tape(")) {
            wrong++;
            System.out.println("README.md has a call that can't be read: " + line);
        }
    }

    private static void checkShown() {
        for (Method m : OutgrownCoats.class.getDeclaredMethods()) {
            if (Modifier.isPublic(m.getModifiers()) && !shown.contains(m.getName())) {
                wrong++;
                System.out.println("README.md does not show " + m.getName());
            }
        }
    }

    public static void main(String[] args) throws Exception {
        for (String line : Files.readAllLines(Path.of("README.md"))) read(line);
        checkShown();
        System.out.println(calls + " calls of README.md, " + wrong + " answers are not as due");
        if (wrong != 0) System.exit(1);
    }
}
