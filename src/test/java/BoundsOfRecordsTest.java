/**
 * Promises 32 to 40: each sentence about SIGHTS, HIDDEN feasts, YEARS, IMAGES, count and status
 * that names a boundary: at it, one below it, one above it.
 */
public final class BoundsOfRecordsTest extends Sentences {
    private static final int LEAST = Integer.MIN_VALUE;
    private static final int MOST = Integer.MAX_VALUE;

    // ---- promise 32: sight ----

    static void p32quartersFrom1To40() {
        x.person(0, 40, 20);
        due("k -1", x.sight(-1, 0, 20), -1);
        due("k 0", x.sight(0, 0, 20), -1);
        due("k 41", x.sight(41, 0, 20), -1);
        due("k least", x.sight(LEAST, 0, 20), -1);
        due("k most", x.sight(MOST, 0, 20), -1);
        due("k 1", x.sight(1, 0, 20), 1);
        due("k 2", x.sight(2, 0, 20), 2);
        due("k 39", x.sight(39, 0, 20), 3);
        due("k 40", x.sight(40, 0, 20), 4);
    }

    static void p32wideFrom5To200() {
        x.person(0, 40, 20);
        due("WIDE 4", x.sight(1, 0, 4), -1);
        due("WIDE 201", x.sight(1, 0, 201), -1);
        due("WIDE least", x.sight(1, 0, LEAST), -1);
        due("WIDE most", x.sight(1, 0, MOST), -1);
        due("WIDE 5", x.sight(1, 0, 5), 1);
        due("WIDE 6", x.sight(1, 0, 6), 2);
        due("WIDE 199", x.sight(1, 0, 199), 3);
        due("WIDE 200", x.sight(1, 0, 200), 4);
    }

    static void p32noSuchPerson() {
        due("PERSON 0 of none", x.sight(1, 0, 20), -2);
        x.person(0, 40, 20);
        due("PERSON -1", x.sight(1, -1, 20), -2);
        due("PERSON 1", x.sight(1, 1, 20), -2);
        due("PERSON 0", x.sight(1, 0, 20), 1);
    }

    static void p32sixAtMost() {
        x.person(0, 40, 20);
        for (int i = 1; i <= 6; i++) {
            due("SIGHT " + i, x.sight(i, 0, 20), i);
        }
        due("the seventh", x.sight(7, 0, 20), -5);
        due("SIGHTS", x.count(2), 6);
        x.forget();
        due("room again", x.sight(7, 0, 20), 1);
    }

    static void p32theFirstOfTheRefusalsInTheirOrder() {
        x.person(0, 40, 20);
        due("-1 ahead of -2", x.sight(0, 1, 20), -1);
        due("-1 ahead of -2", x.sight(1, 1, 4), -1);
        for (int i = 1; i <= 6; i++) {
            x.sight(i, 0, 20);
        }
        due("-1 ahead of -5", x.sight(41, 0, 20), -1);
        due("-1 ahead of -5", x.sight(1, 0, 201), -1);
        due("-2 ahead of -5", x.sight(1, 1, 20), -2);
        due("-5", x.sight(1, 0, 20), -5);
    }

    static void p32whatIsRefusedIsNoSight() {
        x.person(0, 40, 20);
        x.sight(0, 0, 20);
        x.sight(1, 1, 20);
        due("SIGHTS", x.count(2), 0);
    }

    // ---- promise 33: forget ----

    static void p33howManyThereWere() {
        x.person(0, 40, 20);
        due("none", x.forget(), 0);
        x.sight(1, 0, 99);
        due("one", x.forget(), 1);
        due("none then", x.forget(), 0);
        for (int i = 1; i <= 6; i++) {
            x.sight(i, 0, 99);
        }
        due("nothing HIDDEN", x.hidden(NONE), 0);
        due("six", x.forget(), 6);
        due("SIGHTS", x.count(2), 0);
        due("all may be HIDDEN", x.hidden(NONE), 20);
    }

    static void p33whatIsForgottenIsNotSeen() {
        x.person(64, 40, 20);
        for (int i = 1; i <= 6; i++) {
            x.sight(1, 0, 99);
        }
        x.forget();
        for (int i = 1; i <= 6; i++) {
            x.sight(1, 0, 21);
            due("by " + i, x.hidden(NONE), 1);
        }
    }

    // ---- promise 34: hidden ----

    static void p34theNumbers() {
        due("nobody", x.hidden(NONE), 0);
        due("the first of none", x.hidden(0), NONE);
        x.person(64, 40, 20);
        x.person(64, 40, 20);
        due("how many", x.hidden(NONE), 40);
        due("-2", x.hidden(-2), NONE);
        due("0", x.hidden(0), 0);
        due("1", x.hidden(1), 1);
        due("2", x.hidden(2), 8);
        due("38", x.hidden(38), 19 * 8);
        due("39", x.hidden(39), 19 * 8 + 1);
        due("40", x.hidden(40), NONE);
        due("least", x.hidden(LEAST), NONE);
        due("most", x.hidden(MOST), NONE);
    }

    static void p34eightPeople() {
        for (int i = 0; i < 8; i++) {
            x.person(64, 40, 20);
        }
        due("how many", x.hidden(NONE), 160);
        for (int i = 0; i < 160; i++) {
            due("the " + i, x.hidden(i), i);
        }
        due("160", x.hidden(160), NONE);
    }

    static void p34quartersFrom1To20() {
        x.person(64, 40, 20);
        x.sight(1, 0, 21);
        due("in 1", x.hidden(NONE), 1);
        due("in 1", x.hidden(0), 0);
        x.forget();
        x.sight(19, 0, 20);
        x.sight(20, 0, 21);
        due("in 20", x.hidden(NONE), 1);
        due("in 20", x.hidden(0), 19 * 8);
        x.forget();
        x.sight(20, 0, 20);
        x.sight(21, 0, 21);
        due("not in 21", x.hidden(NONE), 0);
        x.forget();
        x.sight(20, 0, 20);
        due("not by then", x.hidden(NONE), 0);
        x.forget();
        x.sight(40, 0, 21);
        due("in any", x.hidden(NONE), 20);
        x.forget();
        x.sight(40, 0, 22);
        due("one feast alone", x.hidden(NONE), 0);
    }

    static void p34twoHundredAtMost() {
        x.person(64, 40, 199);
        x.sight(1, 0, 200);
        due("199 and 1", x.hidden(NONE), 1);
        fresh();
        x.person(64, 40, 200);
        x.sight(40, 0, 200);
        due("200 and 1 is 200", x.hidden(NONE), 20);
        fresh();
        x.person(64, 40, 199);
        x.nourish(0, 1);
        x.sight(1, 0, 200);
        x.sight(20, 0, 200);
        due("200 by FED, and 1 is 200", x.hidden(NONE), 20);
        x.nourish(0, -1);
        x.sight(2, 0, 198);
        due("and less again", x.hidden(NONE), 0);
    }

    static void p34allSightsAreSo() {
        x.person(64, 40, 20);
        x.person(64, 40, 30);
        x.sight(5, 0, 21);
        due("the first's", x.hidden(NONE), 5);
        x.sight(2, 0, 20);
        due("3, 4, 5", x.hidden(NONE), 3);
        due("3", x.hidden(0), 2 * 8);
        due("5", x.hidden(2), 4 * 8);
        x.sight(40, 1, 30);
        due("the other's without", x.hidden(NONE), 3);
        x.sight(40, 1, 31);
        due("the other's can't be both", x.hidden(NONE), 0);
        x.forget();
        x.sight(5, 0, 21);
        x.sight(5, 1, 31);
        due("two feasts would be needed", x.hidden(NONE), 0);
    }

    static void p34asWideFromTheFirstOn() {
        x.person(64, 40, 20);
        x.sight(1, 0, 21);
        x.sight(5, 0, 21);
        due("in 1 alone", x.hidden(NONE), 1);
        due("in 1", x.hidden(0), 0);
        x.sight(2, 0, 20);
        due("not 20 again", x.hidden(NONE), 0);
        x.forget();
        x.sight(4, 0, 21);
        x.sight(3, 0, 20);
        x.sight(6, 0, 21);
        due("in 4 alone", x.hidden(NONE), 1);
        due("in 4", x.hidden(0), 24);
    }

    static void p34theSameSightTwice() {
        x.person(64, 40, 20);
        x.sight(3, 0, 21);
        x.sight(3, 0, 21);
        due("the same", x.hidden(NONE), 3);
        x.sight(3, 0, 20);
        due("another", x.hidden(NONE), 0);
    }

    static void p34whatComesOfIt() {
        x.person(64, 40, 20);
        x.terms(0, 999);
        rule("widens 0;widens 1 if wide>20 and quarter=1");
        x.sight(3, 0, 22);
        due("in 1, 2: quarter 1 is the third behind 999", x.hidden(NONE), 2);
        due("in 1", x.hidden(0), 0);
        due("in 2", x.hidden(1), 8);
        x.forget();
        x.sight(3, 0, 21);
        due("in 3", x.hidden(NONE), 1);
        due("in 3", x.hidden(0), 16);
        due("on paper", x.of(0, 2), 20);
    }

    // ---- promise 35: years ----

    static void p35seedsFrom0To1000000() {
        due("-1", x.years(-1, 1), -1);
        due("0", x.years(0, 1), 0);
        due("1000000", x.years(1000000, 1), 0);
        due("1000001", x.years(1000001, 1), -1);
        due("least", x.years(LEAST, 1), -1);
        due("most", x.years(MOST, 1), -1);
    }

    static void p35quartersFrom1To80() {
        x.person(64, 40, 20);
        x.terms(1, 10);
        due("0", x.years(0, 0), -1);
        due("none yet", x.drawn(0, 0), NONE);
        due("1", x.years(0, 1), 0);
        due("WIDE", x.drawn(0, 0), 21);
        due("80", x.years(0, 80), 0);
        due("WIDE", x.drawn(0, 0), 100);
        due("81", x.years(0, 81), -1);
        due("WIDE", x.drawn(0, 0), 100);
        due("-1", x.years(0, -1), -1);
        due("most", x.years(0, MOST), -1);
    }

    static void p35belowFeasts() {
        x.person(64, 40, 20);
        for (int feasts = 0; feasts <= 10; feasts++) {
            x.terms(1, feasts);
            x.years(0, 1);
            due("12345 is 5, FEASTS " + feasts, x.drawn(0, 0), feasts > 5 ? 21 : 20);
            x.years(1000000, 1);
            due("9036 is 6, FEASTS " + feasts, x.drawn(0, 0), feasts > 6 ? 21 : 20);
            x.years(1, 1);
            due("13448 is 8, FEASTS " + feasts, x.drawn(0, 0), feasts > 8 ? 21 : 20);
        }
    }

    static void p35aDrawForEachPersonByNumbers() {
        x.person(64, 40, 20);
        x.person(64, 40, 30);
        x.person(64, 40, 40);
        x.terms(1, 6);
        x.years(0, 1);
        due("5", x.drawn(0, 0), 21);
        due("1", x.drawn(1, 0), 31);
        due("9", x.drawn(2, 0), 40);
        x.terms(1, 5);
        x.years(0, 1);
        due("5", x.drawn(0, 0), 20);
        due("1", x.drawn(1, 0), 31);
        x.terms(1, 2);
        x.years(0, 1);
        due("1", x.drawn(1, 0), 31);
        x.terms(1, 1);
        x.years(0, 1);
        due("1", x.drawn(1, 0), 30);
    }

    static void p35twoHundredAtMost() {
        x.person(64, 40, 199);
        x.person(64, 40, 200);
        x.terms(1, 10);
        x.years(0, 1);
        due("199 and 1", x.drawn(0, 0), 200);
        due("200 and 1", x.drawn(1, 0), 200);
        x.years(0, 2);
        due("199 and 2", x.drawn(0, 0), 200);
    }

    static void p35coatsArePaidBehindTheFeasts() {
        x.person(64, 40, 20);
        x.bale(0, 99);
        x.sew(0, 1, 0, 40, 20);
        x.sew(0, 1, 0, 40, 21);
        x.terms(1, 10);
        rule("pays 21");
        due("one", x.years(0, 1), 21);
        due("the first", x.drawn(0, 1), 11);
        due("the second", x.drawn(1, 1), 10);
        due("both, each once", x.years(0, 80), 42);
        due("the first", x.drawn(0, 1), 22);
        x.terms(1, 0);
        due("none", x.years(0, 80), 0);
    }

    static void p35asAllIsThen() {
        x.person(8, 40, 20);
        x.bale(0, 99);
        x.terms(1, 0);
        x.terms(0, 999);
        x.sew(0, 0, 0, 40, 20);
        rule("pays age*10+quarter;grows 1 if quarter=0");
        due("AGE 9, quarter 0", x.years(0, 1), 90);
        rule("pays age*10+quarter;grows 0 if quarter>0;grows 1 if quarter=0");
        due("AGE 10, quarter 1", x.years(0, 2), 101);
        due("not yet", x.years(0, 1), 0);
    }

    static void p35onPaper() {
        x.person(0, 40, 20);
        x.bale(0, 99);
        x.sew(0, 0, 0, 40, 20);
        due("PAID", x.years(0, 80), 20);
        due("WIDE", x.of(0, 2), 20);
        due("AGE", x.of(0, 0), 0);
        due("WEARER", x.coat(0, 4), 0);
        due("PURSE", x.tailor(0, 1), 0);
        due("NOW", x.count(12), 0);
        due("what can be undone stays", x.count(4), 1);
    }

    // ---- promise 36: drawn ----

    static void p36aheadOfAny() {
        x.person(0, 40, 20);
        due("WIDE", x.drawn(0, 0), NONE);
        due("got", x.drawn(0, 1), NONE);
        x.years(-1, 1);
        due("behind a REFUSED one", x.drawn(0, 1), NONE);
        x.years(0, 1);
        due("got", x.drawn(0, 1), 0);
    }

    static void p36noSuchPersonTailorWhat() {
        x.person(64, 40, 20);
        x.person(64, 40, 30);
        x.terms(1, 0);
        x.years(0, 1);
        due("PERSON -1", x.drawn(-1, 0), NONE);
        due("PERSON 0", x.drawn(0, 0), 20);
        due("PERSON 1", x.drawn(1, 0), 30);
        due("PERSON 2", x.drawn(2, 0), NONE);
        due("TAILOR -1", x.drawn(-1, 1), NONE);
        due("TAILOR 0", x.drawn(0, 1), 0);
        due("TAILOR 3", x.drawn(3, 1), 0);
        due("TAILOR 4", x.drawn(4, 1), NONE);
        due("what -1", x.drawn(0, -1), NONE);
        due("what 2", x.drawn(0, 2), NONE);
        due("most", x.drawn(MOST, 0), NONE);
        due("least", x.drawn(LEAST, 1), NONE);
    }

    static void p36whoWasThereThen() {
        x.years(0, 1);
        x.person(64, 40, 20);
        due("nobody was", x.drawn(0, 0), NONE);
        x.image(0);
        for (int i = 1; i < 8; i++) {
            x.person(64, 40, 20 + i);
        }
        x.terms(1, 0);
        x.years(0, 1);
        due("PERSON 7", x.drawn(7, 0), 27);
        due("PERSON 8", x.drawn(8, 0), NONE);
        x.back(0);
        due("the latest YEARS stay", x.drawn(7, 0), 27);
    }

    static void p36gotInThemAlone() {
        x.person(0, 40, 20);
        x.bale(0, 99);
        x.sew(0, 0, 0, 40, 20);
        x.quarter();
        due("PURSE", x.tailor(0, 1), 20);
        x.years(0, 1);
        due("got", x.drawn(0, 1), 0);
    }

    // ---- promise 37: image ----

    static void p37images0And1() {
        due("-1", x.image(-1), -1);
        due("0", x.image(0), 0);
        due("1", x.image(1), 0);
        due("2", x.image(2), -1);
        due("least", x.image(LEAST), -1);
        due("most", x.image(MOST), -1);
    }

    static void p37apartAndKeptAgain() {
        x.image(0);
        x.person(0, 40, 20);
        x.image(1);
        x.person(0, 50, 30);
        x.back(0);
        due("IMAGE 0", x.count(0), 0);
        x.back(1);
        due("IMAGE 1", x.count(0), 1);
        x.image(0);
        x.person(0, 60, 30);
        x.back(0);
        due("IMAGE 0 again", x.count(0), 1);
        x.back(1);
        due("IMAGE 1 stays", x.count(0), 1);
    }

    static void p37itLeavesWhatCanBeUndone() {
        x.quarter();
        x.image(0);
        due("one", x.count(4), 1);
        due("undo", x.undo(), 2);
    }

    // ---- promise 38: back ----

    static void p38images0And1() {
        due("-1", x.back(-1), -1);
        due("0, not kept", x.back(0), -2);
        due("1, not kept", x.back(1), -2);
        due("2, -1 ahead of -2", x.back(2), -1);
        x.image(1);
        due("0, not kept", x.back(0), -2);
        due("1", x.back(1), 0);
        x.image(0);
        due("0", x.back(0), 0);
        due("least", x.back(LEAST), -1);
        due("most", x.back(MOST), -1);
    }

    static void p38anEmptyTownIsGoneBackTo() {
        x.image(0);
        x.person(0, 40, 20);
        x.bale(0, 99);
        x.sew(0, 0, 0, 40, 20);
        x.sight(1, 0, 20);
        rule("grows 2");
        x.terms(0, 7);
        x.terms(1, 8);
        x.terms(2, 9);
        x.back(0);
        int[] want = {0, 0, 0, 0, 0, 0};
        for (int what = 0; what < want.length; what++) {
            due("count(" + what + ")", x.count(what), want[what]);
        }
        due("FORCE", x.count(11), NONE);
        due("NOW", x.count(12), 0);
        due("FEASTS", x.count(13), 3);
        due("MOOD", x.count(14), 0);
        due("CLOTH", x.tailor(0, 0), 0);
        due("PERSON 0", x.of(0, 0), NOTHING);
        due("COAT 0", x.coat(0, 0), NONE);
    }

    static void p38aFullTownIsGoneBackTo() {
        for (int i = 0; i < 8; i++) {
            x.person(i, 40 + i, 20);
            x.nourish(i, i % 7 - 3);
        }
        for (int i = 0; i < 4; i++) {
            x.bale(i, 900 + i);
        }
        for (int i = 0; i < 10; i++) {
            x.sew(i % 4, 3 - i % 4, i % 8, 50 + i, 30 + i);
            x.let(i, i % 2);
        }
        for (int i = 1; i <= 6; i++) {
            law("grows " + i);
            x.sight(i, i, 20);
        }
        x.force(5);
        x.image(1);
        x.force(0);
        x.forget();
        orders("quarter times 20");
        x.back(1);
        for (int i = 0; i < 8; i++) {
            due("LONG of " + i, x.of(i, 1), 40 + i);
            due("FED of " + i, x.of(i, 3), i % 7 - 3);
            due("GROWS of " + i, x.of(i, 4), 6);
        }
        for (int i = 0; i < 10; i++) {
            due("LONG of COAT " + i, x.coat(i, 0), 50 + i + (i % 2 == 0 ? 2 : 0));
            due("WIDE of COAT " + i, x.coat(i, 1), 30 + i + i % 2);
            due("WEARER of COAT " + i, x.coat(i, 4), i % 8);
            due("PAID of COAT " + i, x.coat(i, 7), 0);
        }
        due("SIGHTS", x.count(2), 6);
        due("LAWS", x.count(3), 6);
        due("no room for a LAW", law("bars"), -5);
        due("no room for a SIGHT", x.sight(1, 0, 20), -5);
        due("no room for a PERSON", x.person(0, 40, 20), -5);
    }

    static void p38lawsAreAsTheyWere() {
        x.person(64, 40, 20);
        x.image(0);
        for (int i = 0; i < 6; i++) {
            law("grows " + (i + 1));
        }
        x.image(1);
        x.back(0);
        due("LAWS", x.count(3), 0);
        due("no LAW 0", x.force(0), -2);
        for (int i = 0; i < 6; i++) {
            law("grows 9");
        }
        x.back(1);
        for (int i = 0; i < 6; i++) {
            x.force(i);
            due("GROWS by LAW " + i, x.of(0, 4), i + 1);
        }
    }

    static void p38sightsAreAsTheyWere() {
        x.person(64, 40, 20);
        x.person(64, 40, 30);
        x.sight(2, 0, 20);
        x.sight(3, 0, 21);
        x.image(0);
        x.forget();
        x.sight(5, 1, 30);
        x.sight(7, 1, 31);
        due("in 6, 7", x.hidden(0), 5 * 8 + 1);
        x.image(1);
        x.back(0);
        due("in 3 alone", x.hidden(NONE), 1);
        due("in 3", x.hidden(0), 16);
        x.back(1);
        due("in 6, 7", x.hidden(NONE), 2);
        due("in 6", x.hidden(0), 5 * 8 + 1);
    }

    static void p38coatsAreAsTheyWere() {
        x.person(64, 40, 20);
        x.bale(2, 99);
        x.bale(0, 99);
        x.image(1);
        x.sew(2, 3, 0, 45, 25);
        x.let(0, 0);
        x.let(0, 1);
        x.image(0);
        x.back(1);
        x.sew(0, 1, 0, 40, 20);
        x.nourish(0, 1);
        x.quarter();
        x.back(0);
        int[] want = {47, 26, 2, 3, 0, 1, 2, 0, 20};
        for (int what = 0; what < want.length; what++) {
            due("coat(0, " + what + ")", x.coat(0, what), want[what]);
        }
    }

    static void p38aCoatSewnInThePlaceOfOneThatIsGoneIsNew() {
        x.person(0, 40, 20);
        x.bale(0, 99);
        x.image(0);
        x.sew(0, 1, 0, 40, 20);
        x.quarter();
        x.let(0, 0);
        x.let(0, 1);
        due("PAID", x.coat(0, 7), 1);
        x.back(0);
        x.sew(0, 2, 0, 41, 21);
        int[] want = {41, 21, 0, 2, 0, 2, 3, 0, 20};
        for (int what = 0; what < want.length; what++) {
            due("coat(0, " + what + ")", x.coat(0, what), want[what]);
        }
    }

    static void p38aPersonInThePlaceOfOneThatIsGoneIsNew() {
        x.image(0);
        x.person(7, 40, 20);
        x.nourish(0, 3);
        x.back(0);
        x.person(8, 50, 30);
        int[] want = {8, 50, 30, 0};
        for (int what = 0; what < want.length; what++) {
            due("of(0, " + what + ")", x.of(0, what), want[what]);
        }
    }

    static void p38whatImagesDoNotKeep() {
        x.image(0);
        row(1, 2, 3);
        lawFault("bars ?", 5);
        orders("quarter;hem 0");
        x.person(64, 40, 20);
        x.terms(1, 0);
        x.years(0, 1);
        x.quarter();
        tape("abcd");
        int refused = x.count(6) + x.count(7) + x.count(8) + x.count(9) + x.count(10);
        x.back(0);
        due("the TAPE", x.count(5), 4);
        due("MOTHS", x.moths(), 1);
        due("FAULT", x.fault(), NONE);
        due("where ORDERS stopped", x.stopped(), 1);
        due("the latest YEARS", x.drawn(0, 0), 20);
        due("how many were REFUSED", refused, 2);
        due("by -3", x.count(8), 1);
        due("by -6", x.count(10), 1);
        due("nothing can be undone", x.undo(), -3);
    }

    static void p38imagesStay() {
        x.image(0);
        for (int i = 0; i < 3; i++) {
            x.person(0, 40, 20);
            due("back", x.back(0), 0);
            due("PEOPLE", x.count(0), 0);
        }
    }

    static void p38whatIsRefusedLeavesAll() {
        x.image(0);
        x.person(0, 40, 20);
        x.quarter();
        x.back(1);
        x.back(2);
        due("PEOPLE", x.count(0), 1);
        due("what can be undone", x.count(4), 1);
    }

    // ---- promise 39: count ----

    static void p39noneForOthers() {
        due("-1", x.count(-1), NONE);
        due("0", x.count(0), 0);
        due("14", x.count(14), 0);
        due("15", x.count(15), NONE);
        due("least", x.count(LEAST), NONE);
        due("most", x.count(MOST), NONE);
    }

    static void p39eachRefusalByItself() {
        x.bale(4, 0);
        due("-1", counts(), 10000);
        x.force(0);
        due("-2", counts(), 11000);
        x.undo();
        due("-3", counts(), 11100);
        for (int i = 0; i < 9; i++) {
            x.person(0, 40, 20);
        }
        due("-5", counts(), 11110);
        x.row();
        due("-6", counts(), 11111);
        orders("hem 0");
        due("ORDERS by -3", counts(), 11211);
        x.back(0);
        due("back by -2", counts(), 12211);
    }

    private static int counts() {
        return (((x.count(6) * 10 + x.count(7)) * 10 + x.count(8)) * 10 + x.count(9)) * 10 + x.count(10);
    }

    static void p39answersOfNoneAreNotRefused() {
        x.of(0, 0);
        x.tailor(4, 0);
        x.end(1);
        x.asks(0, 0, 40, 20, 0);
        x.coat(0, 0);
        x.will(0, 0, 0);
        x.due(0);
        x.falls(4, 0);
        x.odds(0, 20, 0);
        x.cutting(4, 1, 0);
        x.dress(0, 0, 0);
        x.game(0, 1, 0);
        x.fed(0, 0, 20);
        x.hidden(7);
        x.drawn(0, 0);
        x.count(15);
        x.force(NONE);
        for (int i = 0; i < 21; i++) {
            x.feed(0, 0, 0, 0, 0);
        }
        due("none", counts(), 0);
        due("status", x.status(), 0);
    }

    static void p39imagesDoNotKeepRefusals() {
        x.bale(4, 0);
        x.image(0);
        x.bale(4, 0);
        x.back(0);
        due("two", x.count(6), 2);
    }

    static void p39full() {
        for (int i = 0; i < 8; i++) {
            x.person(0, 40, 20);
        }
        x.bale(0, 999);
        for (int i = 0; i < 10; i++) {
            x.sew(0, 0, 0, 40, 20);
        }
        for (int i = 0; i < 6; i++) {
            x.sight(1, 0, 20);
            law("bars");
        }
        x.force(5);
        for (int i = 0; i < 7; i++) {
            x.quarter();
        }
        for (int i = 0; i < 20; i++) {
            x.feed(0, 0, 0, 0, 0);
        }
        int[] want = {8, 10, 6, 6, 16, 400, 0, 0, 0, 0, 0, 5, 7, 3, 0};
        for (int what = 0; what < want.length; what++) {
            due("count(" + what + ")", x.count(what), want[what]);
        }
    }

    // ---- promise 40: status ----

    static void p40aheadOfAny() {
        due("at first", x.status(), 0);
        x.end(7);
        x.asks(0, 0, 0, 0, 0);
        x.forget();
        due("behind others", x.status(), 0);
    }

    static void p40eachCallByItself() {
        x.person(0, 40, 20);
        refused("person", x.person(0, 19, 20), -1);
        accepted("person", x.person(0, 40, 20), 1);
        refused("nourish", x.nourish(2, 0), -2);
        accepted("nourish", x.nourish(0, 0), 0);
        refused("bale", x.bale(0, 1000), -1);
        accepted("bale", x.bale(0, 999), 0);
        refused("terms", x.terms(2, 10), -1);
        accepted("terms", x.terms(2, 0), 0);
        refused("row", x.row(), -6);
        accepted("row", row(0, 0, 0), 0);
        refused("law", law("x"), -6);
        accepted("law", law("cloth 1"), 0);
        refused("orders", orders("x"), -6);
        accepted("orders", orders("quarter if 1=2"), 0);
        refused("orders", orders("hem 0"), -3);
        accepted("force", x.force(NONE), NONE);
        refused("force", x.force(1), -2);
        accepted("sew", x.sew(0, 0, 0, 40, 20), 0);
        refused("sew", x.sew(0, 0, 0, 39, 20), -3);
        accepted("let", x.let(0, 1), 21);
        refused("let", x.let(0, 2), -1);
        accepted("quarter", x.quarter(), 20);
        refused("hand", x.hand(1, 0), -2);
        accepted("hand", x.hand(0, 0), 20);
    }

    static void p40theOthersByThemselves() {
        x.person(0, 40, 20);
        refused("undo", x.undo(), -3);
        accepted("quarter", x.quarter(), 0);
        refused("sight", x.sight(0, 0, 20), -1);
        accepted("undo", x.undo(), 2);
        refused("years", x.years(0, 0), -1);
        accepted("sight", x.sight(1, 0, 20), 1);
        refused("image", x.image(2), -1);
        accepted("years", x.years(0, 1), 0);
        refused("back", x.back(0), -2);
        accepted("image", x.image(0), 0);
        x.terms(0, 999);
        refused("quarter", x.quarter(), -3);
        accepted("back", x.back(0), 0);
    }

    private static void refused(String call, int got, int want) {
        due(call, got, want);
        due("status behind " + call, x.status(), want);
        x.of(0, 0);
        x.feed(0, 0, 0, 0, 0);
        x.end(0);
        x.hidden(NONE);
        x.count(0);
        due("status behind others", x.status(), want);
    }

    private static void accepted(String call, int got, int want) {
        due(call, got, want);
        due("status behind " + call, x.status(), 0);
    }

    public static void main(String[] args) throws Exception {
        runAll(BoundsOfRecordsTest.class);
    }
}
