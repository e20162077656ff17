import com.sun.management.ThreadMXBean;
import java.lang.management.ManagementFactory;

/**
 * All calls of one run live in one room, so what the dearest calls make is measured here: 512 of
 * each on one object make nothing, but for law(), which keeps what it has read.
 */
public final class RoomTest {
    private static final int CALLS = 512;
    private static int wrong = 0;
    private static OutgrownCoats x;

    private static long made() {
        return ((ThreadMXBean) ManagementFactory.getThreadMXBean()).getThreadAllocatedBytes(Thread.currentThread().getId());
    }

    private static void tape(String text) {
        x.end(0);
        for (int i = 0; i < text.length(); i += 20) {
            x.feed(four(text, i), four(text, i + 4), four(text, i + 8), four(text, i + 12), four(text, i + 16));
        }
        x.end(text.length());
    }

    private static int four(String text, int at) {
        int n = 0;
        for (int k = at; k < at + 4; k++) n = n << 8 | (k < text.length() ? text.charAt(k) : 0);
        return n;
    }

    private static void call(int kind, int i) {
        switch (kind) {
            case 0: x.cutting(0, 40, i % 10); break;
            case 1: x.game(0, 8, 0); break;
            case 2: x.dress(0, 24, i % 25); break;
            case 3: x.hidden(i % 8 - 1); break;
            case 4: x.falls(0, 80); break;
            case 5: x.odds(0, 30, 12); break;
            case 6: x.fed(0, 40, 30); break;
            case 7: x.years(i, 80); break;
            case 8: x.image(i % 2); x.back(i % 2); break;
            case 9: x.let(0, 0); x.quarter(); x.undo(); x.undo(); break;
            default: tape("feed 0 by 1;quarter times 20 if wide 0 < 90;hem 9"); x.orders(); break;
        }
    }

    private static void check(String what, long bytes, long most) {
        if (bytes > most) {
            wrong++;
            System.out.println(what + " made " + bytes + " bytes, " + most + " at most are due");
        }
    }

    public static void main(String[] args) {
        new OutgrownCoats();
        made();
        long before = made();
        x = new OutgrownCoats();
        check("the constructor", made() - before, 160000);
        for (int i = 0; i < 6; i++) x.person(i, 40 + i, 20);
        x.bale(0, 999);
        tape("widens fed+[long+wide]%3-1;pays wide+age%7;cloth long+wide%5;grows 2 if age%2=1");
        x.law();
        x.force(0);
        x.sew(0, 1, 0, 90, 50);
        for (int i = 0; i < 6; i++) x.sight(40, i, x.will(i, 40, 2));
        for (int kind = 0; kind <= 10; kind++) {
            before = made();
            for (int i = 0; i < CALLS; i++) call(kind, i);
            long bytes = made() - before;
            check(CALLS + " calls of kind " + kind, bytes, 20000);
        }
        x.image(0);
        before = made();
        for (int i = 0; i < CALLS / 3; i++) {
            tape("grows 1" + "+1".repeat(49));
            x.law();
            x.back(0);
        }
        check("law()", made() - before, CALLS / 3 * 2000L);
        System.out.println(wrong == 0 ? "the room is enough" : wrong + " calls make too much");
        if (wrong != 0) System.exit(1);
    }
}
