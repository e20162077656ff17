import java.lang.reflect.InvocationTargetException;
import java.lang.reflect.Method;
import java.lang.reflect.Modifier;
import java.util.ArrayList;
import java.util.Arrays;
import java.util.Comparator;
import java.util.List;
import java.util.Random;
import java.util.Set;

/**
 * All promises: with any numbers, in towns that are empty, full or between, no call throws; a call
 * that is REFUSED and a call that only asks leave the town as it was.
 */
public final class AnyArgumentsTest {
    private static final int[] NUMBERS = {Integer.MIN_VALUE, Integer.MIN_VALUE + 1, -1001, -1000, -10, -4, -3, -2, -1, 0, 1,
        2, 3, 4, 5, 6, 7, 8, 9, 10, 11, 12, 13, 15, 16, 19, 20, 21, 24, 25, 40, 41, 63, 64, 80, 81, 199, 200, 201, 249, 250,
        251, 300, 301, 399, 400, 401, 998, 999, 1000, 1001, 999999, 1000000, 1000001, Integer.MAX_VALUE - 1, Integer.MAX_VALUE};
    private static final Set<String> MAY_BE_REFUSED = Set.of("person", "nourish", "bale", "terms", "row", "law", "orders",
            "force", "sew", "let", "quarter", "hand", "undo", "sight", "years", "image", "back");
    private static final Set<String> OTHER_CHANGES = Set.of("feed", "end", "forget");
    private static final Set<String> EMPTY_THE_TAPE = Set.of("law", "orders");
    private static int wrong = 0;

    private static void say(String what) {
        wrong++;
        if (wrong < 20) System.out.println(what);
    }

    private static List<Method> calls() {
        List<Method> calls = new ArrayList<>();
        for (Method m : OutgrownCoats.class.getDeclaredMethods()) {
            if (Modifier.isPublic(m.getModifiers())) calls.add(m);
        }
        calls.sort(Comparator.comparing(Method::getName));
        return calls;
    }

    /** All that can be seen of a town, but for how many calls were REFUSED and what the latest one was. */
    private static List<Long> seen(OutgrownCoats x, boolean withTape) {
        List<Long> all = new ArrayList<>();
        for (int what = 0; what <= 14; what++) {
            boolean isAside = what >= 6 && what <= 10 || what == 5 && !withTape;
            if (!isAside) all.add((long) x.count(what));
        }
        for (int i = 0; i < 8; i++) for (int what = 0; what <= 6; what++) all.add((long) x.of(i, what));
        for (int i = 0; i < 10; i++) for (int what = 0; what <= 8; what++) all.add((long) x.coat(i, what));
        for (int i = 0; i < 4; i++) for (int what = 0; what <= 2; what++) all.add((long) x.tailor(i, what));
        for (int i = 0; i < 8; i++) all.add((long) x.drawn(i, i % 2));
        all.add((long) x.moths());
        all.add((long) x.hidden(-1));
        return all;
    }

    private static void tape(OutgrownCoats x, String text) {
        x.end(0);
        for (int i = 0; i < text.length(); i += 20) {
            int[] n = new int[5];
            for (int k = 0; k < 20; k++) n[k / 4] = n[k / 4] << 8 | (i + k < text.length() ? text.charAt(i + k) : 0);
            x.feed(n[0], n[1], n[2], n[3], n[4]);
        }
        x.end(text.length());
    }

    private static OutgrownCoats town(int size) {
        OutgrownCoats x = new OutgrownCoats();
        if (size == 0) return x;
        for (int i = 0; i < (size == 1 ? 3 : 8); i++) x.person(i * 20, 240 - 30 * i, 190 - 23 * i);
        for (int i = 0; i < 4; i++) x.bale(i, 999);
        tape(x, "widens fed+[long+wide]%3-1 if age/quarter<99;pays wide*long;cloth long-wide;grows 2 if age%2=1");
        x.law();
        x.force(0);
        for (int i = 0; i < (size == 1 ? 4 : 10); i++) x.sew(i % 4, 3, i % 3, 260, 220);
        for (int i = 0; i < (size == 1 ? 2 : 6); i++) x.sight(i + 1, 0, 20);
        if (size == 2) {
            for (int i = 0; i < 5; i++) {
                tape(x, "bars if age=" + i);
                x.law();
            }
            for (int i = 0; i < 17; i++) x.let(i % 10, i % 2);
            x.image(0);
            x.image(1);
        }
        return x;
    }

    private static void call(OutgrownCoats x, Method m, int[] numbers) throws Exception {
        boolean takesTape = EMPTY_THE_TAPE.contains(m.getName());
        List<Long> before = seen(x, !takesTape);
        Object[] given = new Object[m.getParameterCount()];
        for (int i = 0; i < given.length; i++) given[i] = numbers[i];
        String name = m.getName() + Arrays.toString(given);
        try {
            m.invoke(x, given);
        } catch (InvocationTargetException e) {
            say(name + " threw " + e.getCause());
            return;
        }
        boolean isRefused = MAY_BE_REFUSED.contains(m.getName()) && x.status() != 0;
        boolean onlyAsks = !MAY_BE_REFUSED.contains(m.getName()) && !OTHER_CHANGES.contains(m.getName());
        if ((isRefused || onlyAsks) && !before.equals(seen(x, !takesTape))) say(name + " changed the town");
    }

    /** Every number there is in one place, with drawn ones in the others. */
    private static void tryAll(Method m, int size, Random draw) throws Exception {
        OutgrownCoats x = town(size);
        for (int place = 0; place < Math.max(1, m.getParameterCount()); place++) {
            for (int number : NUMBERS) {
                int[] numbers = new int[5];
                for (int i = 0; i < 5; i++) numbers[i] = draw.nextBoolean() ? draw.nextInt(4) : NUMBERS[draw.nextInt(NUMBERS.length)];
                numbers[place] = number;
                call(x, m, numbers);
            }
        }
    }

    private static void goOn(int size, Random draw, List<Method> calls) throws Exception {
        OutgrownCoats x = town(size);
        String[] texts = {"quarter times 3", "hem 0;button 1;feed 0 by 3", "hand 0 to 1;quarter", "pays 7;bars if 1/0=1", "quarter;hem 99", "x"};
        for (int i = 0; i < 300; i++) {
            if (draw.nextInt(12) == 0) tape(x, texts[draw.nextInt(texts.length)]);
            int[] numbers = new int[5];
            for (int k = 0; k < 5; k++) numbers[k] = draw.nextInt(4) > 0 ? draw.nextInt(5) : NUMBERS[draw.nextInt(NUMBERS.length)];
            call(x, calls.get(draw.nextInt(calls.size())), numbers);
        }
    }

    public static void main(String[] args) throws Exception {
        List<Method> calls = calls();
        Random draw = new Random(7);
        for (int size = 0; size < 3; size++) {
            for (Method m : calls) tryAll(m, size, draw);
            for (int i = 0; i < 10; i++) goOn(size, draw, calls);
        }
        System.out.println(wrong == 0 ? "no call throws, and what is REFUSED changes nothing" : wrong + " wrong");
        if (wrong != 0) System.exit(1);
    }
}
