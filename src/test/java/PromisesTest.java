/**
 * For each promise of the document: ordinary inputs, the edges that it names, wrong inputs.
 * The answers that are due were found from the document by hand.
 */
public final class PromisesTest {
    private static final int NONE = OutgrownCoats.NONE;
    private static final int NOTHING = OutgrownCoats.NOTHING;
    private static int wrong = 0;
    private static int promise = 0;
    private static OutgrownCoats x;

    private static void due(String call, long got, long want) {
        if (got != want) {
            wrong++;
            System.out.println("promise " + promise + ": " + call + " answered " + got + ", due is " + want);
        }
    }

    private static OutgrownCoats fresh(int number) {
        promise = number;
        x = new OutgrownCoats();
        return x;
    }

    private static void tape(String text) {
        for (int i = 0; i < text.length(); i += 20) {
            int[] n = new int[5];
            for (int k = 0; k < 20; k++) {
                int sign = i + k < text.length() ? text.charAt(i + k) : 0;
                n[k / 4] = n[k / 4] << 8 | sign;
            }
            x.feed(n[0], n[1], n[2], n[3], n[4]);
        }
        x.end(text.length());
    }

    private static int law(String text) {
        tape(text);
        return x.law();
    }

    private static int orders(String text) {
        tape(text);
        return x.orders();
    }

    /** A LAW that stands alone and is in FORCE. */
    private static void rule(String text) {
        int number = law(text);
        due("law " + text, number < 0 ? number : 0, 0);
        x.force(number);
    }

    private static void lawFault(String text, int place) {
        due("law \"" + text + "\"", law(text), -6);
        due("fault of law \"" + text + "\"", x.fault(), place);
    }

    private static void ordersFault(String text, int place) {
        due("orders \"" + text + "\"", orders(text), -6);
        due("fault of orders \"" + text + "\"", x.fault(), place);
    }

    private static String many(String text, int times) {
        return text.repeat(times);
    }

    private static void p1NewObject() {
        fresh(1);
        for (int what = 0; what <= 14; what++) {
            due("count(" + what + ")", x.count(what), what == 11 ? NONE : what == 13 ? 3 : 0);
        }
        due("status()", x.status(), 0);
        due("of(0, 0)", x.of(0, 0), NOTHING);
        due("coat(0, 0)", x.coat(0, 0), NONE);
        due("tailor(3, 0)", x.tailor(3, 0), 0);
        due("tailor(3, 1)", x.tailor(3, 1), 0);
        due("fault()", x.fault(), NONE);
        due("stopped()", x.stopped(), NONE);
        due("moths()", x.moths(), 0);
        due("drawn(0, 1)", x.drawn(0, 1), NONE);
        due("quarter()", x.quarter(), 0);
        due("NONE", OutgrownCoats.NONE, -1);
        due("NOTHING", OutgrownCoats.NOTHING, -1000);
    }

    private static void p2Person() {
        fresh(2);
        due("lowest", x.person(0, 20, 5), 0);
        due("highest", x.person(999, 250, 200), 1);
        int[][] bad = {{-1, 20, 5}, {1000, 20, 5}, {0, 19, 5}, {0, 251, 5}, {0, 20, 4}, {0, 20, 201}};
        for (int[] b : bad) {
            due("person(" + b[0] + ", " + b[1] + ", " + b[2] + ")", x.person(b[0], b[1], b[2]), -1);
        }
        for (int i = 2; i < 8; i++) {
            due("person " + i, x.person(i, 100, 50), i);
        }
        due("the ninth", x.person(1, 100, 50), -5);
        due("the ninth that can't be", x.person(1, 10, 50), -1);
        due("count(0)", x.count(0), 8);
    }

    private static void p3Of() {
        fresh(3);
        x.person(63, 100, 50);
        x.person(64, 110, 60);
        due("AGE", x.of(0, 0), 63);
        due("LONG", x.of(0, 1), 100);
        due("WIDE", x.of(0, 2), 50);
        due("FED", x.of(0, 3), 0);
        due("GROWS below 64", x.of(0, 4), 1);
        due("GROWS at 64", x.of(1, 4), 0);
        x.nourish(0, -3);
        due("FED", x.of(0, 3), -3);
        due("WIDENS", x.of(0, 5), -3);
        x.bale(0, 999);
        x.sew(0, 0, 0, 100, 50);
        x.sew(0, 0, 0, 101, 50);
        due("COATS", x.of(0, 6), 2);
        due("COATS", x.of(1, 6), 0);
        due("what 7", x.of(0, 7), NOTHING);
        due("what -1", x.of(0, -1), NOTHING);
        due("no such", x.of(2, 0), NOTHING);
        due("no such", x.of(-1, 0), NOTHING);
        rule("grows 40;widens 0-40");
        due("GROWS at most", x.of(0, 4), 9);
        due("WIDENS at least", x.of(0, 5), -9);
        rule("grows 0-1;widens 10");
        due("GROWS at least", x.of(0, 4), 0);
        due("WIDENS at most", x.of(0, 5), 9);
        rule("grows 3;grows 5 if person = 1;grows 7 if 1/0 = 0;grows 1000*1000*1000*2");
        due("the last that HOLDS", x.of(0, 4), 3);
        due("the last that HOLDS", x.of(1, 4), 5);
        rule("grows 2 if tailor = 0-1 and long = 100 and wide = 50 and fed = 0-3 and age = 63");
        due("words of a PERSON", x.of(0, 4), 2);
    }

    private static void p4Nourish() {
        fresh(4);
        x.person(0, 40, 20);
        for (int v = -3; v <= 3; v++) {
            due("nourish", x.nourish(0, v), 0);
            due("FED", x.of(0, 3), v);
        }
        due("-4", x.nourish(0, -4), -1);
        due("4", x.nourish(0, 4), -1);
        due("no such", x.nourish(1, 0), -2);
        due("no such", x.nourish(-1, 0), -2);
        due("both", x.nourish(1, 4), -1);
        due("FED stays", x.of(0, 3), 3);
    }

    private static void p5Bale() {
        fresh(5);
        due("first", x.bale(3, 999), 0);
        due("again", x.bale(3, 0), 999);
        due("tailor -1", x.bale(-1, 0), -1);
        due("tailor 4", x.bale(4, 0), -1);
        due("below", x.bale(0, -1), -1);
        due("above", x.bale(0, 1000), -1);
        due("CLOTH", x.tailor(3, 0), 0);
    }

    private static void p6Tailor() {
        fresh(6);
        x.person(0, 40, 20);
        x.bale(0, 100);
        x.bale(1, 100);
        rule("pays long");
        x.sew(0, 1, 0, 41, 20);
        x.sew(1, 1, 0, 43, 20);
        due("CLOTH", x.tailor(0, 0), 100 - 16);
        due("would get", x.tailor(0, 2), 21);
        due("would get", x.tailor(1, 2), 20 + 43);
        due("nobody's", x.tailor(2, 2), 0);
        x.quarter();
        x.quarter();
        due("PURSE", x.tailor(0, 1), 21);
        due("PURSE", x.tailor(1, 1), 20);
        due("worn ones alone", x.tailor(1, 2), 43);
        due("what 3", x.tailor(0, 3), NONE);
        due("what -1", x.tailor(0, -1), NONE);
        due("tailor 4", x.tailor(4, 0), NONE);
        due("tailor -1", x.tailor(-1, 0), NONE);
    }

    private static void p7Terms() {
        fresh(7);
        due("NOW", x.terms(0, 999), 0);
        due("NOW", x.terms(0, 5), 999);
        due("FEASTS", x.terms(1, 10), 3);
        due("MOOD", x.terms(2, 9), 0);
        due("MOOD", x.terms(2, 2), 9);
        due("count(12)", x.count(12), 5);
        due("count(13)", x.count(13), 10);
        due("count(14)", x.count(14), 2);
        int[][] bad = {{0, -1}, {0, 1000}, {1, -1}, {1, 11}, {2, -1}, {2, 10}, {3, 0}, {-1, 0}};
        for (int[] b : bad) {
            due("terms(" + b[0] + ", " + b[1] + ")", x.terms(b[0], b[1]), -1);
        }
        x.person(0, 40, 20);
        rule("grows quarter;widens mood");
        due("quarter is NOW modulo 4", x.of(0, 4), 1);
        due("mood", x.of(0, 5), 2);
    }

    private static void p8Feed() {
        fresh(8);
        for (int i = 1; i <= 20; i++) {
            due("feed", x.feed(0, 0, 0, 0, 0), 20 * i);
        }
        due("the 401st", x.feed(0, 0, 0, 0, 0), NONE);
        due("bytes", x.count(5), 400);
        x.end(381);
        due("the 401st", x.feed(0, 0, 0, 0, 0), NONE);
        x.end(380);
        due("the 400th", x.feed(0, 0, 0, 0, 0), 400);
        x.end(0);
        due("highest first", x.feed(0x0A140500, 0xFFFAC800, 0, 0, 0), 20);
        x.end(6);
        due("two of the bytes can't be", x.row(), 1);
        due("AGE", x.of(0, 0), 10);
        due("LONG", x.of(0, 1), 20);
        due("WIDE", x.of(0, 2), 5);
        x.feed(0xFFFAC800, 0, 0, 0, 0);
        x.end(3);
        due("bytes above 127", x.row(), 1);
        due("AGE", x.of(1, 0), 255);
        due("LONG", x.of(1, 1), 250);
        due("WIDE", x.of(1, 2), 200);
        due("feed is never REFUSED", x.count(6), 0);
    }

    private static void p9End() {
        fresh(9);
        due("end(0)", x.end(0), 0);
        due("end(1)", x.end(1), NONE);
        x.feed(1, 2, 3, 4, 5);
        due("end(21)", x.end(21), NONE);
        due("end(20)", x.end(20), 20);
        due("end(7)", x.end(7), 7);
        due("end(8)", x.end(8), NONE);
        due("end(-1)", x.end(-1), NONE);
        due("count(5)", x.count(5), 7);
        due("end is never REFUSED", x.count(6), 0);
    }

    private static void p10Row() {
        fresh(10);
        due("empty", x.row(), -6);
        tape("\u0000\u0014\u0005");
        due("one", x.row(), 1);
        due("the TAPE is empty", x.count(5), 0);
        tape("\u0000\u0013\u0005\u0000\u0014");
        due("none came", x.row(), 0);
        due("MOTHS", x.moths(), 2);
        tape(many("\u0001\u0020\u0010", 10));
        due("seven more", x.row(), 7);
        due("no room", x.moths(), 3);
        due("PEOPLE", x.count(0), 8);
        due("FED", x.of(7, 3), 0);
        due("status", x.status(), 0);
    }

    private static void p10RowCutOff() {
        fresh(10);
        tape("\u0001\u0020\u0010\u0001\u0020\u0010");
        x.end(5);
        due("what was cut off is not there", x.row(), 1);
        due("MOTHS", x.moths(), 1);
        tape("grows 12");
        x.end(7);
        due("law", x.law(), 0);
        x.force(0);
        due("what was cut off is not there", x.of(0, 4), 1);
        tape("grows 1 if");
        x.end(8);
        due("law", x.law(), 1);
    }

    private static void p11Moths() {
        fresh(11);
        due("ahead of any", x.moths(), 0);
        tape("\u0000\u0014\u0004\u0000\u00fb\u0005\u0000");
        x.row();
        due("two that can't be, one cut off", x.moths(), 3);
        x.row();
        due("a REFUSED row() leaves them", x.moths(), 3);
        tape("\u0000\u0014\u0005");
        x.row();
        due("none", x.moths(), 0);
    }

    private static void p12Law() {
        fresh(12);
        due("law", law("grows 1"), 0);
        due("the TAPE is empty", x.count(5), 0);
        due("law", law("bars"), 1);
        due("blanks", law("   "), -6);
        due("FAULT at the end", x.fault(), 3);
        due("nothing", law(""), -6);
        due("FAULT at the end", x.fault(), 0);
        due("orders", law("quarter"), -6);
        due("tight", law("grows1+2*3if age<8and not(wide=2or long>[3-1])"), 2);
        due("12 CLAUSES", law(many("bars;", 11) + "bars"), 3);
        lawFault(many("bars;", 12) + " bars", 61);
        lawFault(many("bars;", 12) + " )", 61);
        lawFault(many("bars;", 12) + " ", 61);
        due("50 PARTS", law("grows 1" + many("+1", 49)), 4);
        lawFault("grows 1" + many("+1", 49) + "+1", 6 + 100);
        lawFault("grows 1" + many("+1", 48) + ";cloth wide +long", 6 + 97 + 7 + 6);
        due("8 brackets", law("grows 1 if (((([[[[1]]]]=1))))"), 5);
        due("the seventh", law("grows 1"), -5);
        due("the TAPE is empty", x.count(5), 0);
        due("-5 ahead of -6", law("nonsense"), -5);
        due("LAWS", x.count(3), 6);
    }

    private static void p13Orders() {
        fresh(13);
        x.person(0, 40, 20);
        x.person(64, 140, 60);
        x.bale(0, 500);
        due("nothing", orders(""), -6);
        due("law", orders("grows 1"), -6);
        due("feed", orders("feed 0 by 0 - 2;feed 1 by 3"), 2);
        due("FED", x.of(0, 3), -2);
        due("FED", x.of(1, 3), 3);
        due("FED that can't be", orders("feed 0 by 4"), -3);
        due("no such PERSON", orders("feed 2 by 0"), -3);
        x.nourish(0, 0);
        x.sew(0, 1, 0, 42, 20);
        due("hem, button", orders("hem 0 times 2;button 0 times 3"), 5);
        due("LONG", x.coat(0, 0), 46);
        due("WIDE", x.coat(0, 1), 23);
        due("none left", orders("hem 0"), -3);
        due("quarters", orders("quarter times 20 if long 0 < 45"), 5);
        due("LONG", x.of(0, 1), 45);
        due("paid, done", orders("quarter times 20 if paid = 0 and done < 7"), 2);
        due("PAID", x.tailor(0, 1), 10);
        due("NOW", x.count(12), 7);
        due("hand", orders("hand 0 to 1;hand 0 to 0 times 3 if done < 3"), 3);
        due("PAID", x.tailor(0, 1), 40);
        due("wholly or not at all", orders("quarter;feed 0 by 1;hand 0 to 0;hem 0;quarter"), -3);
        due("NOW", x.count(12), 7);
        due("FED", x.of(0, 3), 0);
        due("COAT", x.coat(0, 4), NONE);
        due("PURSE", x.tailor(0, 1), 40);
        due("a BROKEN SUM", orders("quarter;feed 0 by 1/0"), -3);
        due("a BROKEN if", orders("quarter if 1/0 = 0;quarter if 1 = 2"), 0);
        due("no such PERSON's", orders("quarter if long 7 = 0-1 and wide 2 = 0-1"), 1);
        due("now", orders("quarter if now = 8;quarter if now = 8"), 1);
        due("12 times 20", orders(many("quarter times 20;", 11) + "quarter times 20"), 240);
        due("undone are 16", x.count(4), 16);
        x.terms(0, 990);
        due("behind 999", orders("quarter times 10"), -3);
        due("up to 999", orders("quarter times 9"), 9);
    }

    private static void p13OrdersUndo() {
        fresh(13);
        x.person(0, 40, 20);
        x.quarter();
        x.quarter();
        due("fails behind more than 16", orders("quarter times 20;hem 0"), -3);
        due("what could be undone still can", x.count(4), 2);
        due("undo", x.undo(), 2);
        due("NOW", x.count(12), 1);
        due("undo", x.undo(), 2);
        due("NOW", x.count(12), 0);
        due("undo", x.undo(), -3);
    }

    private static void p14Fault() {
        fresh(14);
        lawFault("grows 1001", 6);
        lawFault("grows 1 1", 8);
        lawFault("grows (1)", 6);
        lawFault("grows [1)", 8);
        lawFault("grows 1 if", 10);
        lawFault("grows 1 if 1", 12);
        lawFault("grows 1 if 1 < 2 < 3", 17);
        lawFault("grows 1 if not", 14);
        lawFault("grows 1 if (1 = 1", 17);
        lawFault("grows 1 if (1) = 1", 13);
        lawFault("grows 1 if [1 = 1]", 14);
        lawFault("grows 1;", 8);
        lawFault(";grows 1", 0);
        lawFault("grows -1", 6);
        lawFault("Grows 1", 0);
        lawFault("grows\n1", 5);
        lawFault("grows now", 6);
        lawFault("growsage", 0);
        lawFault("grows 1  ;  x", 12);
        lawFault("grows 1 times 2", 8);
        lawFault("grows [[[[[[[[[1]]]]]]]]]", 14);
        lawFault("grows 1 if ((((((((([1]=1", 19);
        lawFault("grows 1 if (((((((([1]=1", 19);
        lawFault("grows \u00e9", 6);
        lawFault("grows 1 +  ", 11);
        lawFault("grows 2 *", 9);
        lawFault("grows 2 */ 3", 9);
        lawFault("growsz 1", 0);
        lawFault("zgrows 1", 0);
        lawFault("grows 1 if fed = 1 or", 21);
        lawFault("grows 1 if fed = 1 and", 22);
        lawFault("grows 1 if fed =", 16);
        lawFault("grows `", 6);
        lawFault("grows {", 6);
        lawFault("grows /", 6);
        lawFault("grows :", 6);
        lawFault(many(")", 400), 0);
        lawFault(many(" ", 399) + "x", 399);
        lawFault("grows 1 if " + many("not ", 97) + "x", 399);
        lawFault(many("bars;", 12) + many(";", 340), 60);
        due("leading zeros", law("grows 0000000000000000000000007"), 0);
        due("no FAULT", x.fault(), NONE);
        ordersFault("hem 0 if age = 1", 9);
        due("400 bytes", law(many(" ", 396) + "bars"), 1);
        due("400 bytes", law("grows 1 if " + many("not ", 96) + "1=1  "), 2);
        ordersFault("hem 0 times", 11);
        ordersFault("hem 0 times 21", 12);
        ordersFault("hem 0 times 1+1", 13);
        ordersFault("hem 0 if 1 = 1 times 2", 15);
        ordersFault("hem long", 8);
        ordersFault("hem long now", 9);
        ordersFault("hem long 8", 9);
        ordersFault("feed 1 to 1", 7);
        ordersFault("quarter 1", 8);
        ordersFault("hem 1" + many("+1", 49) + "+long 0", 4 + 100);
        due("P, TIMES are no PARTS", orders("hem wide 0" + many("+wide 0", 49) + " times 1"), -3);
        due("no FAULT", x.fault(), NONE);
        lawFault("x", 0);
        for (int i = 0; i < 3; i++) {
            law("bars");
        }
        lawIsRefusedForRoom();
    }

    private static void lawIsRefusedForRoom() {
        due("no FAULT", x.fault(), NONE);
        ordersFault("quarter  x", 9);
        due("no room", law("x x"), -5);
        due("it read no TEXT", x.fault(), 9);
    }

    private static void p15Stopped() {
        fresh(15);
        due("ahead of any", x.stopped(), NONE);
        due("orders", orders("quarter;quarter;hem 0"), -3);
        due("the third", x.stopped(), 2);
        x.quarter();
        due("still", x.stopped(), 2);
        due("orders", orders("feed 0 by 0"), -3);
        due("the first", x.stopped(), 0);
        due("orders", orders("x"), -6);
        due("none", x.stopped(), NONE);
        orders("hem 0");
        due("orders", orders("quarter"), 1);
        due("none", x.stopped(), NONE);
    }

    private static void p16Force() {
        fresh(16);
        due("no LAW", x.force(0), -2);
        law("grows 5");
        law("grows 6");
        x.person(0, 40, 20);
        due("first", x.force(0), NONE);
        due("status", x.status(), 0);
        due("GROWS", x.of(0, 4), 5);
        due("second", x.force(1), 0);
        due("GROWS", x.of(0, 4), 6);
        due("count(11)", x.count(11), 1);
        due("none", x.force(NONE), 1);
        due("GROWS", x.of(0, 4), 1);
        due("no such", x.force(2), -2);
        due("no such", x.force(-2), -2);
        due("count(11)", x.count(11), NONE);
    }

    private static void p17Asks() {
        fresh(17);
        x.person(5, 40, 20);
        due("CLOTH", x.asks(0, 0, 49, 21, 0), 20);
        due("CLOTH of the largest", x.asks(0, 0, 300, 250, 0), 1500);
        due("PAYS", x.asks(0, 0, 20, 5, 1), 20);
        due("BARRED", x.asks(0, 0, 20, 5, 2), 0);
        due("FITS", x.asks(0, 0, 40, 20, 3), 1);
        due("too short", x.asks(0, 0, 39, 20, 3), 0);
        due("too narrow", x.asks(0, 0, 40, 19, 3), 0);
        int[][] bad = {{1, 0, 40, 20, 0}, {-1, 0, 40, 20, 0}, {0, 4, 40, 20, 0}, {0, -1, 40, 20, 0}, {0, 0, 19, 20, 0},
            {0, 0, 301, 20, 0}, {0, 0, 40, 4, 0}, {0, 0, 40, 251, 0}, {0, 0, 40, 20, 4}, {0, 0, 40, 20, -1}};
        for (int[] b : bad) {
            due("wrong", x.asks(b[0], b[1], b[2], b[3], b[4]), NONE);
        }
        due("asks is never REFUSED", x.count(6) + x.count(7), 0);
        rule("cloth long*100+wide+tailor+age;pays 0-5;bars if tailor = 2;bars if 1/0 = 1;bars if wide = 30");
        due("at most", x.asks(0, 1, 40, 20, 0), 999);
        due("at least", x.asks(0, 1, 40, 20, 1), 0);
        due("BARRED", x.asks(0, 2, 40, 20, 2), 1);
        due("not BARRED", x.asks(0, 3, 40, 20, 2), 0);
        due("by WIDE", x.asks(0, 3, 40, 30, 2), 1);
        rule("cloth wide+tailor*100+age-7/2%2+0-3*[2-4]");
        due("of the COAT", x.asks(0, 3, 40, 30, 0), 30 + 300 + 5 - 1 + 0 + 6);
        rule("cloth [0-7]/2+100;pays [0-7]%4+100");
        due("cut towards 0", x.asks(0, 0, 40, 30, 0), 97);
        due("what is left then", x.asks(0, 0, 40, 30, 1), 97);
        rule("pays 7 if 1 = 1 or 1/0 = 1;cloth 7 if 1/0 = 1 or 1 = 1");
        due("or asks no more", x.asks(0, 0, 40, 20, 1), 7);
        due("BROKEN ahead of or", x.asks(0, 0, 40, 20, 0), 16);
        rule("pays 7 if not (1 = 2 and 1/0 = 1);cloth 7 if not (1 = 1 and 1/0 = 1)");
        due("and asks no more", x.asks(0, 0, 40, 20, 1), 7);
        due("BROKEN behind and", x.asks(0, 0, 40, 20, 0), 16);
        x.back(1);
    }

    private static void p17Bounds() {
        fresh(17);
        x.person(5, 40, 20);
        rule("pays 1000*1000*1000/1000/1000/10;cloth [1000*1000*1000+1]/1000/1000/10");
        due("up to 1,000,000,000", x.asks(0, 0, 40, 20, 1), 100);
        due("not beyond", x.asks(0, 0, 40, 20, 0), 16);
        rule("pays 1+[0-1000*1000*1000]/1000/1000/[0-10];cloth [0-1000*1000*1000-1]/1000");
        due("down to it", x.asks(0, 0, 40, 20, 1), 101);
        due("not beyond", x.asks(0, 0, 40, 20, 0), 16);
        rule("bars if not not 1 = 2 or 3 = 3 and 2 < 1;pays 1-2-3+10;cloth 2+3*4-24/4/2");
        due("and ahead of or", x.asks(0, 0, 40, 20, 2), 0);
        due("from the left", x.asks(0, 0, 40, 20, 1), 6);
        due("* ahead of +", x.asks(0, 0, 40, 20, 0), 11);
        rule("pays 1000 if not not not 1 = 2;bars if not 1 = 1;cloth 0-1 if not (1 = 2 or not 1 = 1)");
        due("at most", x.asks(0, 0, 40, 20, 1), 999);
        due("not", x.asks(0, 0, 40, 20, 2), 0);
        due("at least", x.asks(0, 0, 40, 20, 0), 0);
    }

    private static void p18Sew() {
        fresh(18);
        x.person(0, 40, 20);
        x.bale(1, 17);
        due("fits just", x.sew(1, 2, 0, 40, 20), 0);
        due("CLOTH", x.tailor(1, 0), 1);
        due("too little CLOTH", x.sew(1, 1, 0, 40, 20), -3);
        x.bale(1, 16);
        due("just enough", x.sew(1, 1, 0, 40, 20), 1);
        due("CLOTH", x.tailor(1, 0), 0);
        x.bale(1, 999);
        int[][] bad = {{-1, 0, 0, 40, 20}, {4, 0, 0, 40, 20}, {1, -1, 0, 40, 20}, {1, 4, 0, 40, 20}, {1, 1, 0, 19, 20},
            {1, 1, 0, 301, 20}, {1, 1, 0, 40, 4}, {1, 1, 0, 40, 251}, {1, 4, 9, 40, 20}};
        for (int[] b : bad) {
            due("wrong", x.sew(b[0], b[1], b[2], b[3], b[4]), -1);
        }
        due("no such", x.sew(1, 1, 1, 40, 20), -2);
        due("no such", x.sew(1, 1, -1, 30, 20), -2);
        due("too short", x.sew(1, 1, 0, 39, 20), -3);
        due("too narrow", x.sew(1, 1, 0, 40, 19), -3);
        rule("bars if tailor = 1 and wide > 20;cloth 1");
        due("BARRED", x.sew(1, 1, 0, 40, 21), -3);
        for (int i = 2; i < 10; i++) {
            due("COAT " + i, x.sew(1, 0, 0, 40, 20), i);
        }
        due("-3 ahead of -5", x.sew(1, 1, 0, 40, 21), -3);
        due("no room", x.sew(1, 1, 0, 40, 20), -5);
        due("CLOTH", x.tailor(1, 0), 991);
    }

    private static void p19Coat() {
        fresh(19);
        x.person(0, 40, 20);
        x.bale(3, 100);
        rule("pays long+quarter*50");
        x.sew(3, 2, 0, 40, 22);
        int[] want = {40, 22, 3, 2, 0, 2, 3, 0, 40};
        for (int what = 0; what < 9; what++) {
            due("coat(0, " + what + ")", x.coat(0, what), want[what]);
        }
        due("PAID as it is then", x.quarter(), 90);
        due("WEARER", x.coat(0, 4), NONE);
        due("PAID", x.coat(0, 7), 1);
        due("would PAY", x.coat(0, 8), NONE);
        due("what 9", x.coat(0, 9), NONE);
        due("what -1", x.coat(0, -1), NONE);
        due("no such", x.coat(1, 0), NONE);
        due("no such", x.coat(-1, 0), NONE);
    }

    private static void p20Let() {
        fresh(20);
        x.person(0, 40, 20);
        x.bale(0, 100);
        x.sew(0, 0, 0, 40, 20);
        due("what 2", x.let(0, 2), -1);
        due("what -1", x.let(5, -1), -1);
        due("no such", x.let(1, 0), -2);
        due("no such", x.let(-1, 0), -2);
        due("HEM", x.let(0, 0), 42);
        due("HEM", x.let(0, 0), 44);
        due("none left", x.let(0, 0), -3);
        due("BUTTON", x.let(0, 1), 21);
        due("BUTTON", x.let(0, 1), 22);
        due("BUTTON", x.let(0, 1), 23);
        due("none left", x.let(0, 1), -3);
        due("HEMS", x.coat(0, 5), 0);
        due("BUTTONS", x.coat(0, 6), 0);
        x.force(law("cloth 1"));
        x.sew(0, 0, 0, 300, 250);
        due("beyond what is sewn", x.let(1, 0), 302);
        due("beyond what is sewn", x.let(1, 1), 251);
    }

    private static void p21Quarter() {
        fresh(21);
        x.person(63, 249, 199);
        x.person(999, 20, 5);
        x.nourish(0, 3);
        x.nourish(1, -3);
        rule("grows 2 if quarter = 3 and age = 63 or person = 0 and quarter = 0 and wide = 200");
        x.terms(0, 3);
        due("quarter", x.quarter(), 0);
        due("NOW", x.count(12), 4);
        due("LONG within", x.of(0, 1), 250);
        due("WIDE within", x.of(0, 2), 200);
        due("AGE", x.of(0, 0), 64);
        due("LONG", x.of(1, 1), 20);
        due("WIDE within", x.of(1, 2), 5);
        due("AGE at most", x.of(1, 0), 999);
        x.terms(0, 998);
        due("to 999", x.quarter(), 0);
        due("behind 999", x.quarter(), -3);
        due("NOW", x.count(12), 999);
    }

    private static void p21Paid() {
        fresh(21);
        x.person(10, 40, 20);
        x.person(10, 50, 30);
        x.bale(0, 500);
        rule("pays age + person*100 + quarter*7;grows 1;widens fed");
        x.sew(0, 1, 0, 41, 20);
        x.sew(0, 1, 0, 42, 20);
        x.sew(2, 2, 0, 42, 99);
        x.bale(1, 500);
        x.sew(1, 3, 1, 51, 30);
        x.sew(1, 3, 1, 52, 30);
        due("all FIT", x.quarter(), 0);
        due("asked as all is then", x.quarter(), 12 + 14 + 12 + 100 + 14);
        due("half, cut upwards", x.tailor(0, 1), 13);
        due("the rest", x.tailor(1, 1), 13 + 63);
        due("the rest", x.tailor(3, 1), 63);
        due("too long alone", x.coat(1, 4), 0);
        x.nourish(0, 1);
        due("too wide, too long", x.quarter(), 13 + 21 + 13 + 100 + 21);
    }

    private static void p22Hand() {
        fresh(22);
        x.person(10, 40, 20);
        x.person(10, 42, 20);
        x.person(10, 42, 21);
        x.bale(0, 500);
        rule("pays person*7+long");
        x.sew(0, 1, 0, 40, 20);
        due("somebody WEARS it", x.hand(0, 0), -3);
        due("no such", x.hand(1, 0), -2);
        due("no such", x.hand(-1, 0), -2);
        due("no such", x.hand(0, 3), -2);
        due("no such", x.hand(0, -1), -2);
        x.let(0, 0);
        due("worn", x.quarter(), 0);
        x.let(0, 0);
        x.quarter();
        x.quarter();
        x.quarter();
        due("PAID", x.quarter(), 44);
        due("too long", x.hand(0, 1), 51);
        due("PAID", x.coat(0, 7), 2);
        due("PURSE", x.tailor(0, 1), 22 + 26);
        due("PURSE", x.tailor(1, 1), 22 + 25);
        x.person(3, 44, 20);
        due("FITS", x.hand(0, 3), 0);
        due("WEARER", x.coat(0, 4), 3);
        due("PAID", x.coat(0, 7), 2);
        due("worn", x.hand(0, 3), -3);
    }

    private static void p23Undo() {
        fresh(23);
        due("nothing", x.undo(), -3);
        x.person(0, 40, 20);
        x.bale(0, 100);
        x.sew(0, 1, 0, 40, 20);
        x.nourish(0, 2);
        x.let(0, 0);
        x.nourish(0, 3);
        x.quarter();
        x.hand(0, 0);
        due("four", x.count(4), 4);
        due("hand", x.undo(), 3);
        due("WEARER", x.coat(0, 4), NONE);
        due("quarter", x.undo(), 2);
        due("PURSE", x.tailor(0, 1), 0);
        due("WEARER", x.coat(0, 4), 0);
        due("FED", x.of(0, 3), 3);
        due("AGE", x.of(0, 0), 0);
        due("NOW", x.count(12), 0);
        due("let", x.undo(), 1);
        due("LONG", x.coat(0, 0), 40);
        due("FED", x.of(0, 3), 2);
        due("sew", x.undo(), 0);
        due("CLOTH", x.tailor(0, 0), 100);
        due("COATS", x.count(1), 0);
        due("FED", x.of(0, 3), 0);
        due("no more", x.undo(), -3);
        for (int i = 0; i < 20; i++) {
            x.quarter();
        }
        due("16 are kept", x.count(4), 16);
        for (int i = 0; i < 16; i++) {
            due("undo", x.undo(), 2);
        }
        due("no more", x.undo(), -3);
        due("NOW", x.count(12), 4);
    }

    private static void p23UndoEnds() {
        for (int k = 0; k < 12; k++) {
            fresh(23);
            x.person(0, 40, 20);
            x.quarter();
            tape(k == 4 ? "\u0000" : "");
            switch (k) {
                case 0: x.person(0, 40, 20); break;
                case 1: x.bale(0, 0); break;
                case 2: x.terms(2, 0); break;
                case 3: tape("\u0000\u0014\u0005"); x.row(); break;
                case 4: x.row(); break;
                case 5: x.image(0); x.back(0); break;
                case 6: x.person(0, 0, 0); break;
                case 7: x.bale(0, -1); x.terms(2, 10); x.row(); break;
                case 8: x.image(0); x.force(-1); x.sight(1, 0, 20); x.forget(); break;
                case 9: x.nourish(0, 1); break;
                case 10: law("grows 1"); x.years(0, 1); break;
                default: orders("quarter;hem 0"); break;
            }
            due("way " + k, x.count(4), k < 6 ? 0 : 1);
            due("way " + k, x.undo(), k < 6 ? -3 : 2);
        }
    }

    private static void p24Will() {
        fresh(24);
        x.person(60, 40, 20);
        x.nourish(0, 2);
        due("AGE now", x.will(0, 0, 0), 60);
        due("LONG now", x.will(0, 0, 1), 40);
        due("LONG at 64", x.will(0, 80, 1), 44);
        due("WIDE", x.will(0, 80, 2), 180);
        due("AGE", x.will(0, 80, 0), 140);
        x.nourish(0, 3);
        due("WIDE within", x.will(0, 80, 2), 200);
        due("81", x.will(0, 81, 0), NONE);
        due("-1", x.will(0, -1, 0), NONE);
        due("what 3", x.will(0, 1, 3), NONE);
        due("what -1", x.will(0, 1, -1), NONE);
        due("no such", x.will(1, 1, 0), NONE);
        due("on paper", x.of(0, 0), 60);
        x.terms(0, 999);
        rule("grows 4 if quarter = 0;grows 0 if quarter > 0;widens 0");
        due("NOW as it was", x.will(0, 1, 1), 40);
        due("NOW goes on behind 999", x.will(0, 2, 1), 44);
        due("NOW goes on behind 999", x.will(0, 6, 1), 48);
    }

    private static void p25Due() {
        fresh(25);
        x.person(0, 40, 20);
        x.person(64, 40, 20);
        x.bale(0, 999);
        x.sew(0, 0, 0, 40, 20);
        x.sew(0, 0, 0, 103, 20);
        x.sew(0, 0, 1, 40, 20);
        due("at once", x.due(0), 1);
        due("in the last QUARTER that one grows", x.due(1), 64);
        due("never", x.due(2), NONE);
        x.nourish(1, 1);
        due("by WIDE", x.due(2), 1);
        due("no such", x.due(3), NONE);
        due("no such", x.due(-1), NONE);
        x.quarter();
        due("no WEARER", x.due(0), NONE);
        rule("grows 0;widens 1 if age % 4 = 0;widens 0 if age % 4 > 0");
        x.sew(0, 0, 0, 99, 39);
        due("in the 80th", x.due(3), 80);
        x.let(3, 1);
        due("behind the 80th", x.due(3), NONE);
    }

    private static void p26Falls() {
        fresh(26);
        x.person(0, 40, 20);
        x.person(8, 40, 20);
        x.bale(0, 999);
        rule("pays age*10+quarter+1;widens 0");
        x.sew(0, 1, 0, 42, 20);
        x.sew(0, 0, 1, 41, 20);
        x.sew(0, 0, 1, 200, 20);
        due("none yet", x.falls(0, 1), 0);
        due("in two", x.falls(0, 2), 103);
        due("in three", x.falls(0, 3), 103 + 17);
        due("the other", x.falls(1, 3), 17);
        due("in 80", x.falls(0, 80), 103 + 17);
        due("in none", x.falls(0, 0), 0);
        due("81", x.falls(0, 81), NONE);
        due("-1", x.falls(0, -1), NONE);
        due("tailor 4", x.falls(4, 1), NONE);
        due("tailor -1", x.falls(-1, 1), NONE);
        due("on paper", x.tailor(0, 1), 0);
    }

    private static void p27Odds() {
        fresh(27);
        x.person(0, 40, 198);
        due("now", x.odds(0, 198, 0), 1000000000000L);
        due("now", x.odds(0, 199, 0), 0);
        due("one of 12", x.odds(0, 199, 12), 1000000000000L - 13841287201L);
        due("200 at most", x.odds(0, 200, 3), 216000000000L);
        due("beyond", x.odds(0, 201, 12), 0);
        due("below", x.odds(0, -5, 12), 1000000000000L);
        due("13", x.odds(0, 20, 13), NONE);
        due("-1", x.odds(0, 20, -1), NONE);
        due("no such", x.odds(1, 20, 1), NONE);
        x.terms(1, 10);
        due("FEASTS 10", x.odds(0, 200, 2), 1000000000000L);
        x.terms(1, 0);
        due("FEASTS 0", x.odds(0, 199, 12), 0);
        x.terms(1, 5);
        x.person(0, 40, 20);
        rule("grows 1 if wide > 20;grows 0 if wide < 21;widens 3 if long > 40;widens 2 if wide = 21");
        due("WIDE as with feasts", x.odds(1, 24, 2), 250000000000L);
        due("LONG as without", x.odds(1, 26, 3), 0);
        due("in three", x.odds(1, 25, 3), 125000000000L);
        due("in three", x.odds(1, 24, 3), 500000000000L);
        rule("widens quarter");
        x.terms(0, 1);
        due("quarter by quarter", x.odds(1, 26, 3), 1000000000000L);
        due("quarter by quarter", x.odds(1, 27, 3), 875000000000L);
        x.terms(0, 999);
        due("NOW goes on behind 999", x.odds(1, 24, 3), 1000000000000L);
        due("NOW goes on behind 999", x.odds(1, 25, 3), 875000000000L);
    }

    private static void p28Cutting() {
        fresh(28);
        due("nobody", x.cutting(0, 1, 0), 0);
        due("nobody", x.cutting(0, 1, 1), 0);
        due("nobody", x.cutting(0, 1, 2), NONE);
        x.person(0, 40, 20);
        x.person(0, 50, 20);
        x.person(64, 50, 30);
        x.bale(0, 36);
        due("both", x.cutting(0, 1, 0), 40);
        due("CLOTH", x.cutting(0, 1, 1), 36);
        due("first", x.cutting(0, 1, 2), 0);
        due("second", x.cutting(0, 1, 3), 0);
        due("third", x.cutting(0, 1, 4), 100);
        due("no such", x.cutting(0, 1, 5), NONE);
        x.bale(0, 35);
        due("one", x.cutting(0, 1, 0), 20);
        due("the first one", x.cutting(0, 1, 2), 0);
        due("CLOTH", x.cutting(0, 1, 1), 16);
        x.bale(0, 66);
        due("one that is not DUE comes ahead of none", x.cutting(0, 1, 4), 0);
        due("CLOTH", x.cutting(0, 1, 1), 66);
        due("PAID", x.cutting(0, 1, 0), 40);
        int[][] bad = {{-1, 1, 0}, {4, 1, 0}, {0, 0, 0}, {0, 41, 0}, {0, 1, -1}};
        for (int[] b : bad) {
            due("wrong", x.cutting(b[0], b[1], b[2]), NONE);
        }
        due("40", x.cutting(0, 40, 0), 40);
    }

    private static void p28CuttingForEight() {
        fresh(28);
        for (int i = 0; i < 8; i++) {
            x.person(0, 40, 20);
        }
        x.bale(0, 999);
        rule("cloth 124+person;pays 10+person");
        due("all but the first", x.cutting(0, 1, 0), 98);
        due("CLOTH", x.cutting(0, 1, 1), 896);
        for (int i = 0; i < 8; i++) {
            due("PERSON " + i, x.cutting(0, 1, 2 + i), i == 0 ? 100 : 0);
        }
        due("no such", x.cutting(0, 1, 10), NONE);
        rule("cloth 999;pays 10+person");
        due("the last alone", x.cutting(0, 1, 0), 17);
        due("CLOTH", x.cutting(0, 1, 1), 999);
        due("the last alone", x.cutting(0, 1, 9), 0);
        due("the last alone", x.cutting(0, 1, 2), 100);
        rule("cloth 500-person;pays 10+person%2");
        due("two", x.cutting(0, 1, 0), 22);
        due("the first two that PAY most and can be", x.cutting(0, 1, 3), 0);
        due("CLOTH", x.cutting(0, 1, 1), 499 + 497);
        fresh(28);
        x.person(0, 40, 20);
        x.bale(0, 20);
        x.image(0);
        x.person(0, 40, 20);
        due("one", x.cutting(0, 1, 0), 20);
        x.back(0);
        due("one", x.cutting(0, 1, 0), 20);
        due("what stood there is gone", x.cutting(0, 1, 2), 0);
    }

    private static void p28CuttingByLaw() {
        fresh(28);
        x.person(0, 40, 20);
        x.person(0, 40, 20);
        x.bale(1, 10);
        rule("cloth long - 37;pays age*10+wide;bars if person = 0 and long = 40 or tailor = 0;widens 0");
        due("the later, the more", x.cutting(1, 3, 0), 30 + 23 + 30 + 23);
        due("LONG 42, WIDE 23", x.cutting(1, 3, 2), 11);
        due("CLOTH", x.cutting(1, 3, 1), 10);
        x.bale(1, 9);
        due("less", x.cutting(1, 3, 0), 30 + 23 + 20 + 23);
        due("the first by PEOPLE", x.cutting(1, 3, 2), 7);
        due("the other", x.cutting(1, 3, 3), 11);
        x.bale(1, 6);
        due("not LONG 40", x.cutting(1, 1, 0), 33);
        due("due in 1: only the second", x.cutting(1, 1, 2), 100);
        due("the second", x.cutting(1, 1, 3), 3);
        x.bale(1, 7);
        due("one more", x.cutting(1, 1, 2), 4);
        x.bale(0, 999);
        due("BARRED", x.cutting(0, 9, 0), 0);
        due("BARRED", x.cutting(0, 9, 2), 100);
    }

    private static void p29Dress() {
        fresh(29);
        x.person(0, 40, 20);
        due("now", x.dress(0, 0, NONE), 16);
        due("now", x.dress(0, 0, 0), 1);
        due("24", x.dress(0, 24, NONE), 64 * 20 / 50);
        for (int i = 0; i <= 24; i++) {
            due("one is enough", x.dress(0, 24, i), i == 0 ? 1 : 0);
        }
        due("25", x.dress(0, 25, NONE), NONE);
        due("-1", x.dress(0, -1, NONE), NONE);
        due("i -2", x.dress(0, 3, -2), NONE);
        due("i 4", x.dress(0, 3, 4), NONE);
        due("no such", x.dress(1, 3, 0), NONE);
        rule("cloth 0");
        for (int i = 0; i <= 3; i++) {
            due("1 ahead of 0", x.dress(0, 3, i), 1);
        }
        for (int i = 0; i <= 24; i++) {
            due("1 ahead of 0", x.dress(0, 24, i), 1);
        }
        rule("cloth 10 if quarter = 0;cloth 1 if quarter = 2;cloth 5 if quarter = 3;cloth 9 if quarter = 1;bars");
        due("asked when it is cut", x.dress(0, 3, NONE), 10);
        due("not at 2", x.dress(0, 3, 2), 0);
        x.terms(0, 2);
        due("at 2", x.dress(0, 3, NONE), 1);
        x.terms(0, 0);
        rule("cloth [long-39]*[long-39]+tailor+1");
        due("each as LONG as need be", x.dress(0, 2, NONE), 9);
        rule("cloth [long-39]*[long-39]*[1+quarter%2*0]-age*9");
        due("two", x.dress(0, 2, NONE), 1);
        due("1 ahead of 0", x.dress(0, 2, 1), 1);
        x.nourish(0, -2);
        rule("cloth wide");
        due("the widest till then", x.dress(0, 3, NONE), 20);
    }

    private static void p30Game() {
        fresh(30);
        x.person(64, 40, 20);
        x.bale(0, 999);
        x.sew(0, 0, 0, 40, 20);
        x.sew(0, 0, 0, 40, 21);
        due("she feeds less", x.game(0, 1, 0), 2);
        due("the lowest", x.game(0, 1, 1), 0);
        due("by turns", x.game(0, 8, 0), 9);
        due("one wider", x.game(1, 8, 0), 9);
        rule("widens fed+1");
        due("she can but wait", x.game(0, 8, 0), 2);
        due("FED -1", x.game(0, 8, 1), 0);
        due("one wider", x.game(1, 8, 0), 2);
        due("not in one", x.game(1, 1, 0), 2);
        due("the lowest", x.game(1, 1, 1), 0);
        rule("widens 0-fed");
        due("she wants it late", x.game(0, 2, 0), 3);
        due("FED 0 is as good as 1 only in one", x.game(0, 1, 1), 1);
        due("FED 1 in two", x.game(0, 2, 1), 2);
        rule("grows 1;grows 0 if fed = 1 and age = 64;widens 0");
        due("by LONG", x.game(0, 3, 0), 2);
        due("FED 1", x.game(0, 3, 1), 2);
        rule("grows 0;widens 1 if age = 71;widens 0 if age < 71");
        due("in the eighth", x.game(0, 8, 0), 8);
        due("not in seven", x.game(0, 7, 0), 8);
        rule("widens 0-1;widens 1 if quarter = 2 and fed = 1");
        due("she in the third", x.game(0, 3, 0), 4);
        x.terms(0, 1);
        due("the tailor in the second", x.game(0, 3, 0), 4);
        due("the lowest", x.game(0, 3, 1), 0);
        x.terms(0, 2);
        due("she now", x.game(0, 3, 1), 0);
        due("n 0", x.game(0, 0, 0), NONE);
        due("n 9", x.game(0, 9, 0), NONE);
        due("what 2", x.game(0, 1, 2), NONE);
        due("what -1", x.game(0, 1, -1), NONE);
        due("no such", x.game(2, 1, 0), NONE);
        x.force(0);
        x.quarter();
        due("no WEARER", x.game(0, 1, 0), NONE);
    }

    private static void p31Fed() {
        fresh(31);
        x.person(0, 40, 20);
        x.nourish(0, 2);
        due("none", x.fed(0, 2, 21), 0);
        due("FED -3", x.fed(0, 2, 14), 1);
        due("FED 3", x.fed(0, 2, 26), 64);
        due("FED -3, -2, -1", x.fed(0, 40, 5), 7);
        due("in none", x.fed(0, 0, 20), 127);
        due("in none", x.fed(0, 0, 21), 0);
        due("41", x.fed(0, 41, 20), NONE);
        due("-1", x.fed(0, -1, 20), NONE);
        due("no such", x.fed(1, 1, 20), NONE);
        due("too wide", x.fed(0, 1, 999), 0);
        rule("widens fed*fed");
        due("two each", x.fed(0, 1, 24), 2 + 32);
        rule("widens fed*quarter");
        due("1 and 2", x.fed(0, 3, 23), 16);
        x.terms(0, 3);
        due("3, 0 and 1", x.fed(0, 3, 24), 16);
        due("3 and 0", x.fed(0, 2, 23), 16);
        due("FED stays", x.of(0, 3), 2);
    }

    private static void p32Sight() {
        fresh(32);
        x.person(0, 40, 20);
        due("k 0", x.sight(0, 0, 20), -1);
        due("k 41", x.sight(41, 0, 20), -1);
        due("WIDE 4", x.sight(1, 0, 4), -1);
        due("WIDE 201", x.sight(1, 5, 201), -1);
        due("no such", x.sight(1, 1, 20), -2);
        due("no such", x.sight(1, -1, 20), -2);
        for (int i = 1; i <= 6; i++) {
            due("sight", x.sight(i == 1 ? 40 : 1, 0, i == 2 ? 200 : 5), i);
        }
        due("the seventh", x.sight(1, 0, 20), -5);
        due("-2 ahead of -5", x.sight(1, 1, 20), -2);
        due("count(2)", x.count(2), 6);
    }

    private static void p33Forget() {
        fresh(33);
        x.person(0, 40, 20);
        due("none", x.forget(), 0);
        x.sight(1, 0, 20);
        x.sight(1, 0, 20);
        due("two", x.forget(), 2);
        due("none", x.forget(), 0);
        due("count(2)", x.count(2), 0);
    }

    private static void p34Hidden() {
        fresh(34);
        due("nobody", x.hidden(NONE), 0);
        x.person(0, 40, 20);
        x.person(0, 50, 20);
        x.person(64, 60, 200);
        due("any", x.hidden(NONE), 60);
        due("by QUARTERS, PEOPLE", x.hidden(1), 1);
        due("by QUARTERS, PEOPLE", x.hidden(3), 8);
        due("the last", x.hidden(59), 19 * 8 + 2);
        due("no more", x.hidden(60), NONE);
        due("-2", x.hidden(-2), NONE);
        x.sight(40, 2, 200);
        due("200 at most", x.hidden(NONE), 60);
        x.sight(5, 1, 20);
        due("not that one till 5", x.hidden(NONE), 20 + 15 + 20);
        x.sight(7, 1, 21);
        due("one's in 6, 7", x.hidden(NONE), 2);
        due("one's in 6", x.hidden(0), 5 * 8 + 1);
        x.sight(30, 0, 20);
        due("still", x.hidden(NONE), 2);
        x.sight(40, 0, 21);
        due("two feasts would be needed", x.hidden(NONE), 0);
        due("none", x.hidden(0), NONE);
        x.forget();
        rule("widens 1 if wide = 21;grows wide - 20;widens 2 if long > 50 and age < 64 and person = 0");
        x.sight(2, 0, 22);
        due("what comes of it", x.hidden(NONE), 1);
        due("in the first", x.hidden(0), 0);
    }

    private static void p34HiddenByQuarters() {
        fresh(34);
        x.person(0, 40, 20);
        x.person(0, 40, 20);
        rule("grows 0;widens 1 if quarter = 2 and wide > 20;widens 0 if quarter < 2 or quarter = 3");
        x.sight(1, 1, 20);
        x.sight(3, 0, 22);
        due("ahead of the third", x.hidden(NONE), 2);
        due("in the first", x.hidden(0), 0);
        due("in the second", x.hidden(1), 8);
        x.sight(1, 0, 20);
        due("not in the first", x.hidden(NONE), 1);
        due("in the second", x.hidden(0), 8);
        x.sight(1, 1, 21);
        due("never", x.hidden(NONE), 0);
        x.forget();
        x.sight(1, 0, 21);
        due("in the first", x.hidden(NONE), 1);
        x.sight(2, 0, 20);
        due("not then", x.hidden(NONE), 0);
        x.forget();
        x.sight(1, 0, 21);
        x.sight(5, 0, 21);
        due("behind the third it is 22", x.hidden(NONE), 0);
    }

    private static void p35Years() {
        fresh(35);
        x.person(64, 40, 20);
        x.person(64, 40, 200);
        x.bale(0, 999);
        x.sew(0, 1, 0, 40, 20);
        rule("pays wide+quarter*100+21");
        due("n 0", x.years(0, 0), -1);
        due("n 81", x.years(0, 81), -1);
        due("SEED -1", x.years(-1, 1), -1);
        due("SEED 1000001", x.years(1000001, 1), -1);
        due("SEED 0: 5, 1", x.years(0, 1), 0);
        due("WIDE", x.drawn(0, 0), 20);
        due("200 at most", x.drawn(1, 0), 200);
        long s = 0;
        int wide = 20;
        int paid = 0;
        for (int q = 1; q <= 80; q++) {
            for (int person = 0; person < 2; person++) {
                s = (s * 1103 + 12345) % 1000003;
                if (person == 0 && s % 10 < 3) {
                    wide++;
                    paid = paid == 0 ? 20 + q % 4 * 100 + 21 : paid;
                }
            }
        }
        due("80", x.years(0, 80), paid);
        due("WIDE", x.drawn(0, 0), wide);
        due("got", x.drawn(0, 1), (paid + 1) / 2);
        due("got", x.drawn(1, 1), paid / 2);
        due("on paper", x.of(0, 2), 20);
        due("on paper", x.coat(0, 4), 0);
        due("on paper", x.count(12), 0);
        due("SEED 1000000", x.years(1000000, 1) >= 0 ? 0 : 1, 0);
        x.terms(1, 0);
        due("FEASTS 0", x.years(0, 80), 0);
        x.terms(1, 10);
        due("FEASTS 10", x.years(0, 1), 141);
    }

    private static void p36Drawn() {
        fresh(36);
        x.person(0, 40, 20);
        due("ahead of any", x.drawn(0, 0), NONE);
        due("ahead of any", x.drawn(0, 1), NONE);
        x.years(0, 0);
        due("REFUSED", x.drawn(0, 0), NONE);
        x.terms(1, 10);
        x.years(0, 7);
        due("WIDE", x.drawn(0, 0), 27);
        due("got", x.drawn(3, 1), 0);
        due("no such", x.drawn(1, 0), NONE);
        due("no such", x.drawn(-1, 0), NONE);
        due("no such", x.drawn(4, 1), NONE);
        due("no such", x.drawn(-1, 1), NONE);
        due("what 2", x.drawn(0, 2), NONE);
        due("what -1", x.drawn(0, -1), NONE);
        x.person(0, 40, 30);
        x.quarter();
        due("who was not there", x.drawn(1, 0), NONE);
        due("the latest", x.drawn(0, 0), 27);
        x.years(0, 81);
        due("REFUSED", x.drawn(0, 0), 27);
        x.bale(0, 999);
        x.sew(0, 0, 0, 99, 20);
        x.years(0, 1);
        due("got", x.drawn(0, 1), 20);
        x.quarter();
        x.years(0, 1);
        due("PURSES aside", x.drawn(0, 1), 20);
    }

    private static void p37Image() {
        fresh(37);
        due("-1", x.image(-1), -1);
        due("2", x.image(2), -1);
        due("0", x.image(0), 0);
        due("1", x.image(1), 0);
        x.person(0, 40, 20);
        due("again", x.image(1), 0);
        x.back(0);
        due("the first", x.count(0), 0);
        x.back(1);
        due("the second", x.count(0), 1);
        x.back(0);
        due("IMAGES stay", x.count(0), 0);
    }

    private static void p38Back() {
        fresh(38);
        due("-1", x.back(-1), -1);
        due("2", x.back(2), -1);
        due("not kept", x.back(0), -2);
        x.person(0, 40, 20);
        x.bale(0, 100);
        x.nourish(0, 1);
        law("grows 3");
        x.force(0);
        x.sight(1, 0, 20);
        x.terms(1, 4);
        x.terms(2, 5);
        x.sew(0, 1, 0, 42, 22);
        x.let(0, 0);
        x.image(1);
        x.years(0, 3);
        int wide = x.drawn(0, 0);
        x.nourish(0, -1);
        law("grows 4");
        x.force(1);
        x.sight(2, 0, 20);
        x.terms(0, 9);
        x.terms(1, 6);
        x.terms(2, 7);
        x.person(1, 50, 30);
        x.quarter();
        x.quarter();
        x.bale(0, 3);
        x.quarter();
        orders("hem 9");
        law("x");
        tape("\u0000\u0000\u0000\u0000");
        x.row();
        tape("abc");
        due("back", x.back(1), 0);
        due("PEOPLE", x.count(0), 1);
        due("FED", x.of(0, 3), 1);
        due("LONG", x.of(0, 1), 40);
        due("CLOTH", x.tailor(0, 0), 100 - 18);
        due("PURSE", x.tailor(0, 1), 0);
        due("COATS", x.count(1), 1);
        due("HEMS", x.coat(0, 5), 1);
        due("WEARER", x.coat(0, 4), 0);
        due("SIGHTS", x.count(2), 1);
        due("LAWS", x.count(3), 1);
        due("FORCE", x.count(11), 0);
        due("GROWS", x.of(0, 4), 3);
        due("NOW", x.count(12), 0);
        due("FEASTS", x.count(13), 4);
        due("MOOD", x.count(14), 5);
        due("nothing can be undone", x.undo(), -3);
        due("the TAPE is kept by none", x.count(5), 3);
        due("FAULT", x.fault(), 0);
        due("MOTHS", x.moths(), 2);
        due("where ORDERS stopped", x.stopped(), 0);
        due("the latest YEARS", x.drawn(0, 0), wide);
        due("REFUSED", x.count(6), 2);
        x.end(0);
        due("a LAW again", law("grows 5"), 1);
        x.force(1);
        due("GROWS", x.of(0, 4), 5);
        x.back(1);
        due("GROWS", x.of(0, 4), 3);
    }

    private static void p38BackToLaws() {
        fresh(38);
        x.person(0, 40, 20);
        x.image(0);
        for (int i = 0; i < 6; i++) {
            law("grows " + (i + 2));
        }
        x.image(1);
        x.back(0);
        due("LAWS", x.count(3), 0);
        for (int i = 0; i < 6; i++) {
            law("grows 9");
        }
        x.back(1);
        for (int i = 0; i < 6; i++) {
            due("force", x.force(i), i - 1);
            due("GROWS", x.of(0, 4), i + 2);
        }
    }

    private static void p39Count() {
        fresh(39);
        x.person(0, 40, 20);
        x.bale(0, 100);
        x.sew(0, 0, 0, 40, 20);
        x.sight(1, 0, 20);
        law("bars");
        law("bars");
        x.force(1);
        x.let(0, 0);
        x.bale(9, 9);
        x.back(9);
        x.force(9);
        x.hand(9, 0);
        x.let(9, 0);
        x.hand(0, 0);
        x.sew(0, 0, 0, 40, 20);
        orders("hem 0;hem 0");
        x.row();
        law("");
        orders("");
        x.terms(0, 7);
        x.let(0, 1);
        tape("abc");
        int[] want = {1, 1, 1, 2, 1, 3, 2, 3, 3, 0, 3, 1, 7, 3, 0};
        for (int what = 0; what < want.length; what++) {
            due("count(" + what + ")", x.count(what), want[what]);
        }
        due("count(15)", x.count(15), NONE);
        due("count(-1)", x.count(-1), NONE);
        for (int i = 0; i < 9; i++) {
            x.person(0, 40, 20);
        }
        due("-5", x.count(9), 2);
        x.image(0);
        x.person(0, 40, 20);
        x.back(0);
        due("IMAGES do not keep that", x.count(9), 3);
        x.asks(9, 9, 9, 9, 9);
        x.of(9, 9);
        x.drawn(9, 9);
        due("NONE is not REFUSED", x.count(6), 2);
    }

    private static void p40Status() {
        fresh(40);
        due("ahead of any", x.status(), 0);
        due("person", x.person(0, 0, 0), x.status());
        x.person(0, 40, 20);
        due("person", x.status(), 0);
        x.force(5);
        due("force", x.status(), -2);
        x.forget();
        x.feed(0, 0, 0, 0, 0);
        x.end(1000);
        x.end(0);
        x.of(0, 0);
        x.count(0);
        x.hidden(-1);
        x.asks(0, 0, 0, 0, 0);
        due("not by others", x.status(), -2);
        x.force(NONE);
        due("force", x.status(), 0);
        String[] names = {"nourish", "bale", "terms", "row", "law", "orders", "orders", "let", "sew", "hand", "undo",
            "sight", "years", "image", "back", "quarter"};
        int[] wants = {-1, -1, -1, -6, -6, -6, -3, -2, -3, -2, -3, -2, -1, -1, -2, -3};
        for (int k = 0; k < names.length; k++) {
            refusedOne(k);
            due(names[k], x.status(), wants[k]);
            acceptedOne(k);
            due(names[k], x.status(), 0);
        }
    }

    private static void refusedOne(int k) {
        switch (k) {
            case 0: x.nourish(9, 9); break;
            case 1: x.bale(9, 9); break;
            case 2: x.terms(9, 9); break;
            case 3: x.row(); break;
            case 4: law("x"); break;
            case 5: orders("x"); break;
            case 6: orders("hem 0"); break;
            case 7: x.let(9, 0); break;
            case 8: x.sew(0, 0, 0, 30, 30); break;
            case 9: x.hand(9, 0); break;
            case 10: x.bale(0, 999); x.undo(); break;
            case 11: x.sight(1, 9, 20); break;
            case 12: x.years(0, 0); break;
            case 13: x.image(9); break;
            case 14: x.back(1); break;
            default: x.terms(0, 999); x.quarter(); break;
        }
    }

    private static void acceptedOne(int k) {
        switch (k) {
            case 0: x.nourish(0, -1); break;
            case 1: x.bale(0, 999); break;
            case 2: x.terms(0, 9); break;
            case 3: tape("abc"); x.row(); break;
            case 4: law("bars if 1 = 2"); break;
            case 5: case 6: orders("quarter"); break;
            case 7: x.sew(0, 0, 0, 99, 99); x.let(0, 0); break;
            case 8: x.sew(0, 0, 0, 99, 99); break;
            case 9: x.nourish(0, 3); orders("quarter times 20 if wide 0 < 99;quarter times 20 if wide 0 < 120"); x.hand(0, 0); break;
            case 10: x.quarter(); x.undo(); break;
            case 11: x.sight(1, 0, 20); break;
            case 12: x.years(0, 1); break;
            case 13: x.image(0); break;
            case 14: x.back(0); break;
            default: x.terms(0, 998); x.quarter(); break;
        }
    }

    public static void main(String[] args) {
        p1NewObject();
        p2Person();
        p3Of();
        p4Nourish();
        p5Bale();
        p6Tailor();
        p7Terms();
        p8Feed();
        p9End();
        p10Row();
        p10RowCutOff();
        p11Moths();
        p12Law();
        p13Orders();
        p13OrdersUndo();
        p14Fault();
        p15Stopped();
        p16Force();
        p17Asks();
        p17Bounds();
        p18Sew();
        p19Coat();
        p20Let();
        p21Quarter();
        p21Paid();
        p22Hand();
        p23Undo();
        p23UndoEnds();
        p24Will();
        p25Due();
        p26Falls();
        p27Odds();
        p28Cutting();
        p28CuttingByLaw();
        p28CuttingForEight();
        p29Dress();
        p30Game();
        p31Fed();
        p32Sight();
        p33Forget();
        p34Hidden();
        p34HiddenByQuarters();
        p35Years();
        p36Drawn();
        p37Image();
        p38Back();
        p38BackToLaws();
        p39Count();
        p40Status();
        System.out.println(wrong == 0 ? "all promises hold" : wrong + " answers are not as due");
        if (wrong != 0) {
            System.exit(1);
        }
    }
}
