/**
 * Promises 24 to 31: each sentence about what will be, on paper, that names a boundary: at it,
 * one below it, one above it.
 */
public final class BoundsOfPlansTest extends Sentences {
    private static final int LEAST = Integer.MIN_VALUE;
    private static final int MOST = Integer.MAX_VALUE;
    private static final long ALL = 1000000000000L;

    // ---- promise 24: will ----

    static void p24from0To80Quarters() {
        x.person(0, 40, 20);
        due("-1", x.will(0, -1, 0), NONE);
        due("0", x.will(0, 0, 0), 0);
        due("1", x.will(0, 1, 0), 1);
        due("79", x.will(0, 79, 0), 79);
        due("80", x.will(0, 80, 0), 80);
        due("81", x.will(0, 81, 0), NONE);
        due("least", x.will(0, LEAST, 0), NONE);
        due("most", x.will(0, MOST, 0), NONE);
    }

    static void p24noSuchPersonNoSuchWhat() {
        due("PERSON 0 of none", x.will(0, 0, 0), NONE);
        x.person(3, 40, 20);
        due("PERSON -1", x.will(-1, 0, 0), NONE);
        due("PERSON 1", x.will(1, 0, 0), NONE);
        due("what -1", x.will(0, 0, -1), NONE);
        due("what 0", x.will(0, 0, 0), 3);
        due("what 1", x.will(0, 0, 1), 40);
        due("what 2", x.will(0, 0, 2), 20);
        due("what 3", x.will(0, 0, 3), NONE);
        due("never REFUSED", x.count(6) + x.count(7), 0);
    }

    static void p24growsBelow64() {
        x.person(62, 40, 20);
        int[] want = {40, 41, 42, 42, 42};
        for (int n = 0; n < want.length; n++) {
            due("LONG behind " + n, x.will(0, n, 1), want[n]);
        }
    }

    static void p24within() {
        x.person(997, 249, 198);
        x.nourish(0, 1);
        rule("grows 1");
        int[][] want = {{997, 249, 198}, {998, 250, 199}, {999, 250, 200}, {999, 250, 200}, {999, 250, 200}};
        for (int n = 0; n < want.length; n++) {
            for (int what = 0; what < 3; what++) {
                due("will(0, " + n + ", " + what + ")", x.will(0, n, what), want[n][what]);
            }
        }
        fresh();
        x.person(0, 40, 7);
        x.nourish(0, -1);
        int[] wides = {7, 6, 5, 5, 5};
        for (int n = 0; n < wides.length; n++) {
            due("WIDE behind " + n, x.will(0, n, 2), wides[n]);
        }
    }

    static void p24nowGoesOnBehind999() {
        x.person(0, 40, 20);
        x.terms(0, 998);
        rule("grows quarter");
        int[] want = {40, 42, 45, 45, 46, 48};
        for (int n = 0; n < want.length; n++) {
            due("LONG behind " + n, x.will(0, n, 1), want[n]);
        }
        x.terms(0, 999);
        due("LONG behind 80", x.will(0, 80, 1), 40 + 20 * 6);
    }

    static void p24onPaper() {
        wornCoat(40, 20);
        x.nourish(0, 1);
        x.will(0, 80, 2);
        due("AGE", x.of(0, 0), 64);
        due("WIDE", x.of(0, 2), 20);
        due("NOW", x.count(12), 0);
        due("WEARER", x.coat(0, 4), 0);
        due("what can be undone stays", x.count(4), 1);
    }

    // ---- promise 25: due ----

    static void p25noSuchCoatNoWearer() {
        due("COAT 0 of none", x.due(0), NONE);
        wornCoat(40, 20);
        x.nourish(0, 1);
        due("COAT -1", x.due(-1), NONE);
        due("COAT 0", x.due(0), 1);
        due("COAT 1", x.due(1), NONE);
        due("COAT least", x.due(LEAST), NONE);
        due("COAT most", x.due(MOST), NONE);
        x.quarter();
        due("no WEARER", x.due(0), NONE);
    }

    static void p25from1To80ByLong() {
        x.person(0, 40, 20);
        x.bale(0, 999);
        rule("grows 1");
        int[][] want = {{40, 1}, {41, 2}, {118, 79}, {119, 80}, {120, NONE}, {121, NONE}};
        for (int i = 0; i < want.length; i++) {
            x.sew(0, 0, 0, want[i][0], 20);
            due("LONG " + want[i][0], x.due(i), want[i][1]);
        }
    }

    static void p25from1To80ByWide() {
        x.person(64, 40, 20);
        x.bale(0, 999);
        x.nourish(0, 1);
        int[][] want = {{20, 1}, {21, 2}, {98, 79}, {99, 80}, {100, NONE}, {101, NONE}};
        for (int i = 0; i < want.length; i++) {
            x.sew(0, 0, 0, 40, want[i][0]);
            due("WIDE " + want[i][0], x.due(i), want[i][1]);
        }
    }

    static void p25neverIfOneDoesNotGrow() {
        wornCoat(40, 20);
        due("never", x.due(0), NONE);
        x.nourish(0, -3);
        due("narrower", x.due(0), NONE);
    }

    static void p25theFirstOfThem() {
        wornCoat(40, 20);
        rule("widens 1 if quarter=1;widens 0-1 if quarter=2;widens 0 if quarter%3=0");
        due("in the second, though it FITS in the third", x.due(0), 2);
    }

    static void p25nowGoesOnBehind999() {
        wornCoat(40, 20);
        x.terms(0, 999);
        rule("grows 0;grows 1 if quarter=1");
        due("quarters 3, 0, 1", x.due(0), 3);
    }

    // ---- promise 26: falls ----

    static void p26tailorsAndQuarters() {
        x.person(0, 40, 20);
        x.bale(0, 999);
        rule("grows 1");
        x.sew(0, 0, 0, 119, 20);
        due("TAILOR -1", x.falls(-1, 80), NONE);
        due("TAILOR 4", x.falls(4, 80), NONE);
        due("TAILOR 3", x.falls(3, 80), 0);
        due("-1", x.falls(0, -1), NONE);
        due("0", x.falls(0, 0), 0);
        due("79", x.falls(0, 79), 0);
        due("80", x.falls(0, 80), 20);
        due("81", x.falls(0, 81), NONE);
        due("least", x.falls(0, LEAST), NONE);
        due("most", x.falls(0, MOST), NONE);
    }

    static void p26inSoManyQuarters() {
        x.person(0, 40, 20);
        x.bale(1, 999);
        x.sew(1, 2, 0, 42, 20);
        due("in 2", x.falls(1, 2), 0);
        due("in 3", x.falls(1, 3), 10);
        due("in 4, once", x.falls(1, 4), 10);
        due("in 80, once", x.falls(1, 80), 10);
        due("the second", x.falls(2, 3), 10);
    }

    static void p26halfCutUpwardsAsAllIsThen() {
        x.person(7, 40, 20);
        x.bale(1, 999);
        x.terms(0, 998);
        rule("pays age+quarter*20+long;grows 1");
        x.sew(1, 2, 0, 41, 20);
        due("AGE 9, quarter 0, LONG 41: 50", x.falls(1, 2), 25);
        x.sew(1, 2, 0, 42, 20);
        due("AGE 10, quarter 1, LONG 42: 72", x.falls(1, 3), 25 + 36);
        x.sew(1, 2, 0, 43, 20);
        due("AGE 11, quarter 2, LONG 43: 94", x.falls(1, 4), 25 + 36 + 47);
        x.sew(1, 2, 0, 40, 20);
        due("AGE 8, quarter 3, LONG 40: 108", x.falls(2, 4), 25 + 36 + 47 + 54);
        x.person(64, 40, 20);
        rule("pays 7;grows 1");
        due("7 each, the first", x.falls(1, 80), 16);
        due("7 each, the second", x.falls(2, 80), 12);
    }

    static void p26thoseThatAreWornAlone() {
        x.person(0, 40, 20);
        x.bale(0, 999);
        x.sew(0, 0, 0, 40, 20);
        due("worn", x.falls(0, 1), 20);
        x.quarter();
        due("not worn", x.falls(0, 80), 0);
        due("the PURSE is aside", x.tailor(0, 1), 20);
    }

    static void p26coatsThatAreThereAlone() {
        x.person(0, 40, 20);
        x.bale(0, 999);
        for (int i = 0; i < 10; i++) {
            due("by " + i, x.falls(0, 1), 20 * i);
            x.sew(0, 0, 0, 40, 20);
        }
        due("by ten", x.falls(0, 1), 200);
        x.undo();
        due("by nine", x.falls(0, 1), 180);
    }

    // ---- promise 27: odds ----

    static void p27from0To12Quarters() {
        x.person(64, 40, 20);
        due("-1", x.odds(0, 20, -1), NONE);
        due("0", x.odds(0, 20, 0), ALL);
        due("1", x.odds(0, 21, 1), ALL / 10 * 3);
        due("12", x.odds(0, 32, 12), 531441);
        due("13", x.odds(0, 20, 13), NONE);
        due("least", x.odds(0, 20, LEAST), NONE);
        due("most", x.odds(0, 20, MOST), NONE);
    }

    static void p27noSuchPerson() {
        due("PERSON 0 of none", x.odds(0, 20, 0), NONE);
        x.person(64, 40, 20);
        due("PERSON -1", x.odds(-1, 20, 0), NONE);
        due("PERSON 1", x.odds(1, 20, 0), NONE);
    }

    static void p27asWideOrWider() {
        x.person(64, 40, 20);
        due("now, one less", x.odds(0, 19, 0), ALL);
        due("now, as wide", x.odds(0, 20, 0), ALL);
        due("now, one more", x.odds(0, 21, 0), 0);
        due("in 12, none", x.odds(0, 20, 12), ALL);
        due("in 12, one", x.odds(0, 21, 12), ALL - 13841287201L);
        due("in 12, twelve", x.odds(0, 32, 12), 531441);
        due("in 12, thirteen", x.odds(0, 33, 12), 0);
    }

    static void p27feastsOfTen() {
        x.person(64, 40, 20);
        for (int feasts = 0; feasts <= 10; feasts++) {
            x.terms(1, feasts);
            due("FEASTS " + feasts, x.odds(0, 21, 1), ALL / 10 * feasts);
        }
        due("all twelve", x.odds(0, 32, 12), ALL);
        due("not thirteen", x.odds(0, 33, 12), 0);
        x.terms(1, 0);
        due("none of twelve", x.odds(0, 21, 12), 0);
    }

    static void p27twoHundredAtMost() {
        x.person(64, 40, 199);
        x.terms(1, 10);
        due("200", x.odds(0, 200, 12), ALL);
        due("201", x.odds(0, 201, 12), 0);
        x.nourish(0, 3);
        due("200 by FED, and a feast", x.odds(0, 200, 1), ALL);
        due("201", x.odds(0, 201, 1), 0);
    }

    static void p27fiveAtLeast() {
        x.person(64, 40, 6);
        x.nourish(0, -3);
        x.terms(1, 10);
        due("5 at the least, and a feast", x.odds(0, 6, 1), ALL);
        due("7", x.odds(0, 7, 1), 0);
        due("the same behind two", x.odds(0, 6, 2), ALL);
        x.terms(1, 0);
        due("5", x.odds(0, 5, 1), ALL);
        due("6", x.odds(0, 6, 1), 0);
    }

    static void p27aWidthThatNobodyHas() {
        x.person(64, 40, 200);
        due("4", x.odds(0, 4, 0), ALL);
        due("0", x.odds(0, 0, 0), ALL);
        due("-1", x.odds(0, -1, 0), ALL);
        due("200", x.odds(0, 200, 0), ALL);
        due("201", x.odds(0, 201, 0), 0);
        due("least", x.odds(0, LEAST, 12), ALL);
        due("most", x.odds(0, MOST, 12), 0);
    }

    static void p27longAsWithoutFeasts() {
        x.person(64, 40, 20);
        x.terms(1, 10);
        rule("grows wide-20;widens 5 if long>40;widens 0 if long<41");
        due("LONG stays 40", x.odds(0, 22, 2), ALL);
        due("LONG stays 40", x.odds(0, 23, 2), 0);
        due("LONG stays 40", x.odds(0, 24, 3), 0);
    }

    static void p27askedAsWideAsOneIsThen() {
        x.person(64, 40, 20);
        x.terms(1, 5);
        rule("widens 0;widens 3 if wide=21");
        due("20, 21, 24, 25", x.odds(0, 21, 2), ALL / 4 * 3);
        due("24, 25", x.odds(0, 24, 2), ALL / 2);
        due("25", x.odds(0, 25, 2), ALL / 4);
        due("26", x.odds(0, 26, 2), 0);
    }

    static void p27nowGoesOnBehind999() {
        x.person(64, 40, 20);
        x.terms(0, 999);
        x.terms(1, 0);
        rule("widens quarter");
        due("quarters 3, 0, 1", x.odds(0, 24, 3), ALL);
        due("quarters 3, 0, 1", x.odds(0, 25, 3), 0);
    }

    // ---- promise 28: cutting ----

    static void p28tailorsQuartersWhat() {
        x.person(0, 40, 20);
        x.person(64, 40, 20);
        x.bale(0, 16);
        x.bale(3, 16);
        due("TAILOR -1", x.cutting(-1, 1, 0), NONE);
        due("TAILOR 0", x.cutting(0, 1, 0), 20);
        due("TAILOR 3", x.cutting(3, 1, 0), 20);
        due("TAILOR 4", x.cutting(4, 1, 0), NONE);
        due("n 0", x.cutting(0, 0, 0), NONE);
        due("n 40", x.cutting(0, 40, 0), 20);
        due("n 41", x.cutting(0, 41, 0), NONE);
        due("what -1", x.cutting(0, 1, -1), NONE);
        due("what 1", x.cutting(0, 1, 1), 16);
        due("what 2", x.cutting(0, 1, 2), 0);
        due("what 3", x.cutting(0, 1, 3), 100);
        due("what 4", x.cutting(0, 1, 4), NONE);
        due("what most", x.cutting(0, 1, MOST), NONE);
        due("n least", x.cutting(0, LEAST, 0), NONE);
    }

    static void p28aTownWithoutPeople() {
        due("PAID", x.cutting(0, 1, 0), 0);
        due("CLOTH", x.cutting(0, 1, 1), 0);
        due("PERSON 0", x.cutting(0, 1, 2), NONE);
    }

    static void p28eightPeople() {
        for (int i = 0; i < 8; i++) {
            x.person(0, 40, 20);
        }
        x.bale(0, 128);
        due("all", x.cutting(0, 1, 0), 160);
        due("CLOTH", x.cutting(0, 1, 1), 128);
        due("PERSON 7", x.cutting(0, 1, 9), 0);
        due("PERSON 8", x.cutting(0, 1, 10), NONE);
        x.bale(0, 127);
        due("one less", x.cutting(0, 1, 0), 140);
        due("CLOTH", x.cutting(0, 1, 1), 112);
        due("the last one is none", x.cutting(0, 1, 9), 100);
        due("the seventh", x.cutting(0, 1, 8), 0);
    }

    static void p28ofAllOfOnesClothAtMost() {
        x.person(0, 40, 20);
        due("none", x.cutting(0, 1, 0), 0);
        due("none", x.cutting(0, 1, 2), 100);
        x.bale(0, 15);
        due("one too little", x.cutting(0, 1, 0), 0);
        due("CLOTH", x.cutting(0, 1, 1), 0);
        x.bale(0, 16);
        due("just enough", x.cutting(0, 1, 0), 20);
        due("CLOTH", x.cutting(0, 1, 1), 16);
        x.bale(0, 17);
        due("one too much", x.cutting(0, 1, 0), 20);
        due("CLOTH", x.cutting(0, 1, 1), 16);
        rule("cloth 999");
        x.bale(0, 998);
        due("998", x.cutting(0, 1, 0), 0);
        x.bale(0, 999);
        due("999", x.cutting(0, 1, 0), 20);
        rule("cloth 0");
        x.bale(0, 0);
        due("0 of 0", x.cutting(0, 1, 0), 20);
        due("0 of 0", x.cutting(0, 1, 1), 0);
    }

    static void p28oneOfTwoWhereTheClothIsForOne() {
        x.person(0, 40, 20);
        x.person(0, 40, 20);
        rule("cloth 500");
        x.bale(0, 500);
        due("one", x.cutting(0, 1, 0), 20);
        due("the first has it", x.cutting(0, 1, 2), 0);
        due("the second has none", x.cutting(0, 1, 3), 100);
        x.bale(0, 999);
        due("one", x.cutting(0, 1, 0), 20);
        due("the first has it", x.cutting(0, 1, 2), 0);
        rule("cloth 499");
        due("both", x.cutting(0, 1, 0), 40);
        due("CLOTH", x.cutting(0, 1, 1), 998);
    }

    static void p28whatPaysLeast() {
        x.person(0, 40, 20);
        x.person(0, 40, 20);
        x.bale(0, 16);
        rule("pays person;cloth 16");
        due("1 by the second", x.cutting(0, 1, 0), 1);
        due("the first has none", x.cutting(0, 1, 2), 100);
        due("the second has it", x.cutting(0, 1, 3), 0);
        rule("pays 1000;cloth 1");
        due("the most that two can PAY", x.cutting(0, 1, 0), 1998);
    }

    static void p28whoIsGoneIsNotCutFor() {
        x.person(0, 40, 20);
        x.bale(0, 99);
        rule("pays 20+person*30");
        x.image(0);
        x.person(0, 40, 20);
        x.bale(0, 99);
        due("two", x.cutting(0, 1, 0), 70);
        x.back(0);
        due("one", x.cutting(0, 1, 0), 20);
        due("CLOTH", x.cutting(0, 1, 1), 16);
        due("it is the first's", x.cutting(0, 1, 2), 0);
        due("there is no second", x.cutting(0, 1, 3), NONE);
    }

    static void p28eachTakesItsOwnCloth() {
        x.person(0, 40, 20);
        x.person(0, 50, 20);
        x.person(0, 60, 20);
        rule("cloth 10+person*5+wide-20;pays 10+person+wide-20;widens 1");
        x.bale(2, 10 + 15 + 20 + 9);
        due("all, the widest", x.cutting(2, 9, 0), 33 + 9);
        due("CLOTH", x.cutting(2, 9, 1), 54);
        due("3 for the last", x.cutting(2, 9, 4), 3);
        x.bale(2, 10 + 15 + 20 + 8);
        due("one less", x.cutting(2, 9, 0), 33 + 8);
        due("2 for the first", x.cutting(2, 9, 2), 2);
        due("3 for the second", x.cutting(2, 9, 3), 3);
        x.bale(2, 10 + 15 + 20);
        due("none is wider", x.cutting(2, 9, 0), 33);
        due("0 for the first", x.cutting(2, 9, 2), 0);
        due("0 for the last", x.cutting(2, 9, 4), 0);
        x.bale(2, 10 + 15 + 20 - 1);
        due("not all: the second and the third, each 3 wider", x.cutting(2, 9, 0), 11 + 12 + 6);
        due("the first has none", x.cutting(2, 9, 2), 100);
        due("CLOTH", x.cutting(2, 9, 1), 15 + 20 + 6);
    }

    static void p28dueInSoManyQuarters() {
        x.person(0, 40, 20);
        x.bale(0, 999);
        rule("grows 1 if age=39;grows 0 if age<39;grows 0 if age>39");
        due("in 39", x.cutting(0, 39, 0), 0);
        due("in 40", x.cutting(0, 40, 0), 20);
        rule("grows 1 if age=40;grows 0 if age<40;grows 0 if age>40");
        due("not in 41", x.cutting(0, 40, 0), 0);
        rule("grows 1 if age=1;grows 0 if age<1");
        due("in 1", x.cutting(0, 1, 0), 0);
        due("in 2", x.cutting(0, 2, 0), 20);
    }

    static void p28threeLongerThreeWider() {
        x.person(0, 40, 20);
        x.bale(0, 999);
        x.nourish(0, 1);
        rule("pays long*10;grows 1");
        due("LONG 43", x.cutting(0, 9, 0), 430);
        due("12 and the first b by which it is the best", x.cutting(0, 9, 2), 12);
        rule("pays wide*10;grows 1");
        due("WIDE 23", x.cutting(0, 9, 0), 230);
        due("3", x.cutting(0, 9, 2), 3);
        rule("pays long+wide;grows 1");
        due("both", x.cutting(0, 9, 0), 66);
        due("15", x.cutting(0, 9, 2), 15);
        rule("pays long+wide;bars if long=43 or wide=23;grows 1");
        due("less by BARS", x.cutting(0, 9, 0), 64);
        due("10", x.cutting(0, 9, 2), 10);
        rule("pays long+wide;bars if long<43 or wide<23;grows 1");
        due("the last alone", x.cutting(0, 9, 2), 15);
        rule("pays long+wide;bars if long<44 and wide<24;grows 1");
        due("none", x.cutting(0, 9, 2), 100);
    }

    static void p28dueLaterIsTooLate() {
        x.person(0, 40, 20);
        x.bale(0, 999);
        rule("pays long*10");
        for (int n = 1; n <= 4; n++) {
            due("in " + n, x.cutting(0, n, 0), (39 + n) * 10);
            due("in " + n, x.cutting(0, n, 2), (n - 1) * 4);
        }
        due("in 5", x.cutting(0, 5, 0), 430);
        due("in 5", x.cutting(0, 5, 2), 12);
    }

    static void p28theFirstByPeopleNoneLast() {
        x.person(0, 40, 20);
        x.person(0, 40, 20);
        x.bale(0, 16);
        due("the first has it", x.cutting(0, 1, 2), 0);
        due("the second has none", x.cutting(0, 1, 3), 100);
        rule("pays 20+person");
        due("the second PAYS more", x.cutting(0, 1, 2), 100);
        due("the second has it", x.cutting(0, 1, 3), 0);
        rule("pays 0;cloth 16");
        due("one that PAYS nothing is ahead of none", x.cutting(0, 1, 2), 0);
        due("there is no CLOTH left", x.cutting(0, 1, 3), 100);
        due("CLOTH of it", x.cutting(0, 1, 1), 16);
        due("PAID", x.cutting(0, 1, 0), 0);
    }

    static void p28askedAsAllIsThen() {
        x.person(8, 40, 20);
        x.bale(2, 999);
        x.terms(0, 999);
        rule("pays age*10+quarter+tailor*100;cloth age;bars if age>8;grows 1 if age=9;grows 0 if not age=9");
        due("AGE 10, quarter 1, TAILOR 2", x.cutting(2, 2, 0), 301);
        due("CLOTH at AGE 8", x.cutting(2, 2, 1), 8);
    }

    static void p28onPaper() {
        x.person(0, 40, 20);
        x.bale(0, 99);
        x.cutting(0, 40, 0);
        due("CLOTH", x.tailor(0, 0), 99);
        due("COATS", x.count(1), 0);
        due("NOW", x.count(12), 0);
    }

    // ---- promise 29: dress ----

    static void p29quartersEndsPeople() {
        due("PERSON 0 of none", x.dress(0, 0, NONE), NONE);
        x.person(64, 40, 20);
        due("PERSON -1", x.dress(-1, 0, NONE), NONE);
        due("PERSON 1", x.dress(1, 0, NONE), NONE);
        due("n -1", x.dress(0, -1, NONE), NONE);
        due("n 0", x.dress(0, 0, NONE), 16);
        due("n 24", x.dress(0, 24, NONE), 16);
        due("n 25", x.dress(0, 25, NONE), NONE);
        due("i -2", x.dress(0, 3, -2), NONE);
        due("i 0", x.dress(0, 3, 0), 1);
        due("i 3", x.dress(0, 3, 3), 0);
        due("i 4", x.dress(0, 3, 4), NONE);
        due("i 24", x.dress(0, 24, 24), 0);
        due("i 25", x.dress(0, 24, 25), NONE);
        due("i 0 of none", x.dress(0, 0, 0), 1);
        due("i 1 of none", x.dress(0, 0, 1), NONE);
        due("n most", x.dress(0, MOST, 0), NONE);
        due("i least", x.dress(0, 3, LEAST), NONE);
    }

    static void p29asLargeAsOneWillBeTillTheNextIsCut() {
        x.person(64, 40, 20);
        rule("grows 0;widens 1;cloth 100-wide");
        due("one COAT, WIDE 24", x.dress(0, 4, NONE), 76);
        due("one alone", x.dress(0, 4, 4), 0);
        rule("grows 0;widens 1;cloth [wide-19]*[wide-19]");
        due("1 and 4 and 9 against 9", x.dress(0, 2, NONE), 9);
        rule("grows 0;widens 1;cloth [wide-20]*[wide-20]");
        due("1 ahead of the end: 0 and 1 and 4 against 4", x.dress(0, 2, NONE), 4);
        due("0, then 4: the first is as WIDE as one is", x.dress(0, 2, 1), 1);
        due("the last as WIDE as one will be", x.dress(0, 2, 2), 0);
    }

    static void p29narrowerLater() {
        x.person(64, 40, 20);
        x.nourish(0, -3);
        rule("cloth wide");
        due("the widest is now", x.dress(0, 5, NONE), 20);
        rule("cloth wide*wide-350");
        due("50 now, then nothing at 17", x.dress(0, 5, NONE), 50);
        due("1 ahead of 0", x.dress(0, 5, 1), 1);
        due("1 ahead of 0", x.dress(0, 5, 5), 1);
    }

    static void p29askedWhenItIsCut() {
        x.person(8, 40, 20);
        rule("cloth 10;cloth 0 if quarter=1;grows 0");
        due("10 now, 0 at the next", x.dress(0, 1, NONE), 10);
        due("1 ahead of 0", x.dress(0, 1, 1), 1);
        x.terms(0, 999);
        due("cut at 1001 is quarter 1", x.dress(0, 2, 2), 1);
        due("cut at 1000 is quarter 0", x.dress(0, 2, 1), 0);
        rule("cloth 10;cloth 0 if age=10;grows 0");
        due("AGE 10 in two", x.dress(0, 2, 2), 1);
        due("AGE 9 in one", x.dress(0, 2, 1), 0);
    }

    static void p29barsAndTailorsAside() {
        x.person(64, 40, 20);
        rule("bars;cloth tailor+8");
        due("TAILOR -1", x.dress(0, 0, NONE), 7);
    }

    static void p29aRowOf1AheadOf0() {
        x.person(64, 40, 20);
        rule("cloth 0");
        for (int i = 0; i <= 24; i++) {
            due("1 at " + i, x.dress(0, 24, i), 1);
        }
        rule("cloth 1;cloth 0 if quarter=0 or quarter=2");
        for (int i = 0; i <= 8; i++) {
            due("at " + i, x.dress(0, 8, i), 1 - i % 2);
        }
    }

    // ---- promise 30: game ----

    static void p30coatsQuartersWhat() {
        due("COAT 0 of none", x.game(0, 1, 0), NONE);
        wornCoat(40, 20);
        due("COAT -1", x.game(-1, 1, 0), NONE);
        due("COAT 1", x.game(1, 1, 0), NONE);
        due("n 0", x.game(0, 0, 0), NONE);
        due("n 1", x.game(0, 1, 0), 2);
        due("n 8", x.game(0, 8, 0), 9);
        due("n 9", x.game(0, 9, 0), NONE);
        due("what -1", x.game(0, 1, -1), NONE);
        due("what 1", x.game(0, 1, 1), 0);
        due("what 2", x.game(0, 1, 2), NONE);
        due("n most", x.game(0, MOST, 0), NONE);
        x.nourish(0, 1);
        x.quarter();
        due("no WEARER", x.game(0, 1, 0), NONE);
    }

    static void p30notInThese() {
        wornCoat(40, 20);
        rule("grows 0;widens 0;widens 1 if age=66");
        due("n 1", x.game(0, 1, 0), 2);
        due("n 2", x.game(0, 2, 0), 3);
        due("n 3", x.game(0, 3, 0), 3);
        due("n 4", x.game(0, 4, 0), 3);
        rule("grows 0;widens 0;widens 1 if age=71");
        due("n 7", x.game(0, 7, 0), 8);
        due("n 8", x.game(0, 8, 0), 8);
    }

    static void p30fedMinus1To1() {
        wornCoat(40, 20);
        rule("widens 0;widens 1 if fed>0-2 and fed<2");
        due("in the first, whatever she does", x.game(0, 8, 0), 1);
        due("the lowest", x.game(0, 8, 1), 0);
        rule("widens 1;widens 0 if fed<0-1 or fed>1");
        due("-2 and 2 can't be", x.game(0, 8, 0), 1);
    }

    static void p30sheBeginsTheLowestOfHers() {
        for (int best = -1; best <= 1; best++) {
            fresh();
            wornCoat(40, 20);
            rule("widens 1;widens 0-9 if fed+5=" + (best + 5) + " and age=64");
            due("FED " + best, x.game(0, 1, 1), best + 1);
            due("not in these", x.game(0, 1, 0), 2);
        }
        fresh();
        wornCoat(40, 20);
        rule("widens 1;widens 0 if fed=0 or fed=1");
        due("0 and 1 are as good", x.game(0, 1, 1), 1);
        rule("widens 1");
        due("all are as bad", x.game(0, 1, 1), 0);
    }

    static void p30byTurns() {
        wornCoat(40, 20);
        rule("widens 0;widens 1 if fed=1 and quarter=1");
        due("the tailor's is the second", x.game(0, 4, 0), 2);
        x.terms(0, 1);
        due("hers is the first", x.game(0, 4, 0), 5);
        x.terms(0, 999);
        due("hers is the third", x.game(0, 4, 0), 5);
        x.terms(0, 998);
        due("the tailor's is the fourth", x.game(0, 4, 0), 4);
        due("not in three", x.game(0, 3, 0), 4);
    }

    static void p30theCoatAsItIs() {
        wornCoat(40, 20);
        x.person(64, 40, 20);
        rule("widens 1");
        due("DUE in 1", x.game(0, 3, 0), 1);
        x.let(0, 1);
        due("DUE in 2", x.game(0, 3, 0), 2);
        due("FED stays", x.of(0, 3), 0);
        due("WIDE stays", x.of(0, 2), 20);
        due("NOW stays", x.count(12), 0);
    }

    // ---- promise 31: fed ----

    static void p31from0To40Quarters() {
        due("PERSON 0 of none", x.fed(0, 0, 20), NONE);
        x.person(64, 40, 100);
        due("PERSON -1", x.fed(-1, 0, 100), NONE);
        due("PERSON 1", x.fed(1, 0, 100), NONE);
        due("-1", x.fed(0, -1, 100), NONE);
        due("0", x.fed(0, 0, 100), 127);
        due("1", x.fed(0, 1, 103), 64);
        due("40", x.fed(0, 40, 140), 16);
        due("41", x.fed(0, 41, 141), NONE);
        due("least", x.fed(0, LEAST, 100), NONE);
        due("most", x.fed(0, MOST, 100), NONE);
    }

    static void p31fedAnd3AsBits() {
        x.person(64, 40, 100);
        for (int fed = -3; fed <= 3; fed++) {
            due("FED " + fed, x.fed(0, 2, 100 + 2 * fed), 1 << (fed + 3));
        }
        due("FED -4", x.fed(0, 2, 92), 0);
        due("FED 4", x.fed(0, 2, 108), 0);
        due("between", x.fed(0, 2, 101), 0);
    }

    static void p31withinWide() {
        x.person(64, 40, 198);
        due("200 by 1, 2, 3", x.fed(0, 2, 200), 16 + 32 + 64);
        due("201", x.fed(0, 2, 201), 0);
        fresh();
        x.person(64, 40, 7);
        due("5 by -1, -2, -3", x.fed(0, 2, 5), 1 + 2 + 4);
        due("4", x.fed(0, 2, 4), 0);
        due("least", x.fed(0, 2, LEAST), 0);
        due("most", x.fed(0, 2, MOST), 0);
    }

    static void p31nowGoesOnBehind999() {
        x.person(64, 40, 20);
        x.terms(0, 999);
        rule("widens fed*quarter");
        due("quarters 3, 0, 1 by 2", x.fed(0, 3, 28), 32);
        due("FED stays", x.of(0, 3), 0);
    }

    /** PERSON 0 at AGE 64, LONG 40 and WIDE 20, who WEARS COAT 0. */
    private static void wornCoat(int length, int width) {
        x.person(64, 40, 20);
        x.bale(0, 999);
        x.sew(0, 0, 0, length, width);
    }

    public static void main(String[] args) throws Exception {
        runAll(BoundsOfPlansTest.class);
    }
}
