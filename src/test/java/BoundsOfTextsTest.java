/**
 * Promises 12 to 15: each sentence about LAWS, ORDERS, FAULT and what is BROKEN that names a
 * boundary: at it, one below it, one above it.
 */
public final class BoundsOfTextsTest extends Sentences {

    // ---- promise 12: law ----

    static void p12sixAtMost() {
        for (int i = 0; i < 6; i++) {
            due("LAW " + i, law("grows " + i), i);
        }
        due("the seventh", law("grows 6"), -5);
        due("LAWS", x.count(3), 6);
    }

    static void p12noRoomComesAheadOfReadingIt() {
        lawFault("grows", 5);
        for (int i = 0; i < 6; i++) {
            law("bars");
        }
        ordersFault("x", 0);
        due("a TEXT that can't be", law("bars x"), -5);
        due("the TAPE is empty then, too", x.count(5), 0);
        due("it was not read", x.fault(), 0);
        due("nothing", law(""), -5);
        due("REFUSED by -5", x.count(9), 2);
        due("REFUSED by -6", x.count(10), 2);
    }

    static void p12roomBehindBack() {
        x.image(0);
        for (int i = 0; i < 6; i++) {
            law("bars");
        }
        x.back(0);
        due("LAW 0 again", law("bars"), 0);
    }

    static void p12theTapeIsEmptyThen() {
        law("bars");
        due("read", x.count(5), 0);
        law("x");
        due("not read", x.count(5), 0);
    }

    static void p12blanksAlone() {
        lawFault("", 0);
        lawFault(" ", 1);
        lawFault(many(" ", 19), 19);
        lawFault(many(" ", 20), 20);
        lawFault(many(" ", 399), 399);
        lawFault(many(" ", 400), 400);
    }

    static void p12whatIsRefusedIsNoLaw() {
        lawFault("x", 0);
        due("LAWS", x.count(3), 0);
        due("force(0)", x.force(0), -2);
    }

    static void p12twelveClauses() {
        due("11", law("bars" + many(";bars", 10)), 0);
        due("12", law("bars" + many(";bars", 11)), 1);
        lawFault("bars" + many(";bars", 12), 60);
        lawFault("bars" + many(";bars", 11) + " ;  bars", 63);
        lawFault("bars" + many(";bars", 11) + ";", 60);
        lawFault("bars" + many(";bars", 11) + ";  ", 62);
        lawFault("bars" + many(";bars", 11) + "; ?", 61);
        lawFault("bars" + many(";bars", 10) + ";", 55);
    }

    static void p12theTwelfthClauseCounts() {
        x.person(0, 40, 20);
        rule("grows 2" + many(";grows 3", 10) + ";grows 4");
        due("GROWS", x.of(0, 4), 4);
    }

    static void p12numbersTo1000() {
        due("0", law("grows 0"), 0);
        due("999", law("grows 999"), 1);
        due("1000", law("grows 1000"), 2);
        lawFault("grows 1001", 6);
        lawFault("grows 1 + 1001", 10);
        lawFault("grows 9999999999", 6);
        lawFault("grows 4294967296", 6);
        lawFault("grows 18446744073709551617", 6);
        lawFault("grows " + many("9", 394), 6);
        due("noughts ahead", law("grows " + many("0", 390) + "1000"), 3);
        lawFault("grows " + many("0", 390) + "1001", 6);
    }

    static void p12fiftyPartsThatAreNumbers() {
        due("49", law("grows 1" + many("+1", 48)), 0);
        due("50", law("grows 1" + many("+1", 49)), 1);
        lawFault("grows 1" + many("+1", 50), 6 + 100);
    }

    static void p12fiftyPartsThatAreWords() {
        due("50", law("grows age" + many("+age", 49)), 0);
        lawFault("grows age" + many("+age", 50), 6 + 200);
        lawFault("grows age" + many("+age", 49) + "+ 7", 6 + 201);
    }

    static void p12fiftyPartsInAllClauses() {
        String twenty = "1" + many("+1", 19);
        due("20, 20, 10", law("grows " + twenty + ";pays " + twenty + ";cloth 1" + many("+1", 9)), 0);
        int place = ("grows " + twenty + ";pays " + twenty + ";cloth 1" + many("+1", 9) + ";bars if ").length();
        lawFault("grows " + twenty + ";pays " + twenty + ";cloth 1" + many("+1", 9) + ";bars if age = 1", place);
        due("in the SUM and the TEST", law("grows 1" + many("+1", 24) + " if 1" + many("+1", 23) + "=1"), 1);
    }

    static void p12bracketsAreNoParts() {
        due("50", law("grows [1]" + many("+[1]", 49)), 0);
        lawFault("grows [1]" + many("+[1]", 49) + "+[1]", 6 + 3 + 49 * 4 + 2);
    }

    static void p12eightBracketsWithinOneAnother() {
        due("7 [", law("grows " + many("[", 7) + "1" + many("]", 7)), 0);
        due("8 [", law("grows " + many("[", 8) + "1" + many("]", 8)), 1);
        lawFault("grows " + many("[", 9) + "1" + many("]", 9), 14);
        due("7 (", law("bars if " + many("(", 7) + "1=1" + many(")", 7)), 2);
        due("8 (", law("bars if " + many("(", 8) + "1=1" + many(")", 8)), 3);
        lawFault("bars if " + many("(", 9) + "1=1" + many(")", 9), 16);
    }

    static void p12eightBracketsOfBothKinds() {
        due("5 ( and 3 [", law("bars if " + many("(", 5) + "[[[1]]]=1" + many(")", 5)), 0);
        lawFault("bars if " + many("(", 5) + "[[[[1]]]]=1" + many(")", 5), 16);
        due("8 ( and none", law("bars if " + many("(", 8) + "1=1" + many(")", 8)), 1);
        lawFault("bars if " + many("(", 8) + "[1]=1" + many(")", 8), 16);
        due("7 ( and 1 [ behind =", law("bars if " + many("(", 7) + "1=[1]" + many(")", 7)), 2);
        lawFault("bars if " + many("(", 8) + "1=[1]" + many(")", 8), 18);
        due("8 [ behind =", law("bars if 1=" + many("[", 8) + "1" + many("]", 8)), 3);
    }

    static void p12bracketsSideBySide() {
        due("nine (", law("bars if (1=1)" + many(" or (1=1)", 8)), 0);
        due("eight, then eight", law("grows [[[[[[[[1]]]]]]]]*[[[[[[[[1]]]]]]]]"), 1);
        lawFault("grows [[[[[[[[1]]]]]]]]*[[[[[[[[[1]]]]]]]]]", 32);
    }

    static void p12bracketsThatAreNotClosed() {
        lawFault("grows [1", 8);
        lawFault("grows 1]", 7);
        lawFault("bars if (1=1", 12);
        lawFault("bars if 1=1)", 11);
        lawFault("grows [1)", 8);
        lawFault("bars if (1=1]", 12);
        lawFault("grows []", 7);
        lawFault("bars if ()", 9);
    }

    static void p12lettersFromAToZ() {
        due("a to z", law("widens age"), 0);
        lawFault("grows `", 6);
        lawFault("grows {", 6);
        lawFault("grows agez", 6);
        lawFault("grows age`", 9);
        lawFault("grows age{", 9);
        lawFault("grows agE", 6);
        lawFault("grows ageE", 9);
        lawFault("Grows age", 0);
        lawFault("grows age" + bytes(225), 9);
    }

    static void p12digitsFrom0To9() {
        due("0 to 9", law("grows 109"), 0);
        lawFault("grows 1:", 7);
        lawFault("grows 1/", 8);
        lawFault("grows :", 6);
        lawFault("grows 1.5", 7);
    }

    static void p12blanksAre32Alone() {
        due("blanks", law("  grows  1  +  2  "), 0);
        lawFault("grows" + bytes(31) + "1", 5);
        lawFault("grows!1", 5);
        lawFault("grows" + bytes(9) + "1", 5);
        lawFault("grows" + bytes(10) + "1", 5);
        lawFault("grows" + bytes(160) + "1", 5);
        lawFault("grows 1" + bytes(0), 7);
    }

    static void p12longestRows() {
        due("no blank between letters and digits", law("grows1if2<3and4>3"), 0);
        lawFault("grows 1 0", 8);
        lawFault("gro ws 1", 0);
        lawFault("growsage", 0);
        lawFault("grows 1 ifage=1", 8);
        lawFault("bars if not1=1 andage=1", 15);
        due("not1", law("bars if not1=1"), 1);
    }

    static void p12fourHundredBytes() {
        due("396 blanks and bars", law(many(" ", 396) + "bars"), 0);
        due("bars and 396 blanks", law("bars" + many(" ", 396)), 1);
        lawFault("bars if" + many(" ", 393), 400);
        lawFault(many(" ", 399) + "x", 399);
        lawFault("bars if " + many("not", 130) + "xx", 8);
        due("97 not", law("bars if " + many("not ", 97) + "1=1 "), 2);
        lawFault("bars if " + many("not ", 98), 400);
        lawFault(many(";", 400), 0);
        lawFault("grows " + many("[", 394), 14);
    }

    static void p12whatAClauseMayNotBe() {
        lawFault("bars 1", 5);
        lawFault("bars if", 7);
        lawFault("grows if 1=1", 6);
        lawFault("grows", 5);
        lawFault("grows 1 if 1=1 if 1=1", 15);
        lawFault("grows 1 times 2", 8);
        lawFault("grows 1;;grows 1", 8);
        lawFault(";", 0);
        lawFault("quarter", 0);
        lawFault("grows now", 6);
        lawFault("grows long 0", 11);
        lawFault("if 1=1", 0);
    }

    static void p12whatATestMayNotBe() {
        lawFault("bars if 1", 9);
        lawFault("bars if 1=", 10);
        lawFault("bars if =1", 8);
        lawFault("bars if 1=1=1", 11);
        lawFault("bars if 1<=1", 10);
        lawFault("bars if (1)=1", 10);
        lawFault("bars if [1=1]", 10);
        lawFault("bars if 1=1 or", 14);
        lawFault("bars if 1=1 and", 15);
        lawFault("bars if not", 11);
        lawFault("bars if 1=1 not 1=1", 12);
        lawFault("bars if 1=not 1", 10);
        lawFault("grows 1 if (1+1)<3", 15);
    }

    static void p12whatASumMayNotBe() {
        lawFault("grows -1", 6);
        lawFault("grows 1+", 8);
        lawFault("grows 1+-1", 8);
        lawFault("grows 1*", 8);
        lawFault("grows *1", 6);
        lawFault("grows 1 age", 8);
        lawFault("grows (1)", 6);
        lawFault("grows 1=1", 7);
        lawFault("grows bars", 6);
        lawFault("grows not", 6);
    }

    // ---- promise 12, what LAWS tell: BROKEN and not ----

    /** What a COAT PAYS by a LAW with this SUM; 20, if it is BROKEN. */
    private static void pays(String sum, int want) {
        fresh();
        x.person(9, 40, 20);
        rule("pays " + sum);
        due("pays " + sum, x.asks(0, 0, 40, 20, 1), want);
    }

    private static void isSo(String test, int want) {
        fresh();
        x.person(9, 40, 20);
        rule("bars if " + test);
        due("if " + test, x.asks(0, 0, 40, 20, 2), want);
    }

    private static final String MOST = "1000*1000*1000";

    static void p12sumsTo1000000000() {
        pays(MOST, 999);
        pays(MOST + "/1000/1000-900", 100);
        pays(MOST + "-1+1", 999);
        pays(MOST + "+0", 999);
        pays(MOST + "+1", 20);
        pays("[" + MOST + "-1]+1", 999);
        pays("[" + MOST + "-1]+2", 20);
        pays("1+" + MOST, 20);
    }

    static void p12sumsToMinus1000000000() {
        pays("0-" + MOST, 0);
        pays("0-" + MOST + "-0", 0);
        pays("0-" + MOST + "-1", 20);
        pays("[0-" + MOST + "]/1000/1000+1000+7", 7);
        pays("0-[0-" + MOST + "]", 999);
        pays("[0-1]-" + MOST, 20);
        pays("1-[0-" + MOST + "]", 20);
    }

    static void p12productsTo1000000000() {
        pays(MOST + "*1", 999);
        pays("[1000*1000-1]*1000", 999);
        pays("[1000*1000+1]*1000", 20);
        pays("[1000*1000+1]*[0-1000]", 20);
        pays("[0-1000]*1000*1000", 0);
        pays("[0-1000]*[0-1000]*1000", 999);
        pays("[0-1000*1000-1]*1000", 20);
        pays("[" + MOST + "]*[" + MOST + "]", 20);
        pays("[" + MOST + "]*[0-" + MOST + "]", 20);
    }

    static void p12brokenOnTheWayIsBroken() {
        pays("1000*1000*1000*1000/1000/1000/1000", 20);
        pays(MOST + "+1-1", 20);
        pays("0*[" + MOST + "*2]", 20);
        pays("[1/0]*0", 20);
    }

    static void p12dividedBy0() {
        pays("1/0", 20);
        pays("0/0", 20);
        pays("1%0", 20);
        pays("0%0", 20);
        pays("7/[1-1]", 20);
        pays("7%[1-1]", 20);
        pays("0/1+5", 5);
        pays("0%1+5", 5);
        pays("7/1", 7);
        pays("7%1+5", 5);
        pays("7/[0-1]+10", 3);
        pays("7%[0-1]+5", 5);
    }

    static void p12cutTowards0() {
        pays("5/3+100", 101);
        pays("6/3+100", 102);
        pays("7/3+100", 102);
        pays("[0-5]/3+100", 99);
        pays("[0-6]/3+100", 98);
        pays("[0-7]/3+100", 98);
        pays("7/[0-3]+100", 98);
        pays("[0-7]/[0-3]+100", 102);
        pays("2/3+100", 100);
        pays("[0-2]/3+100", 100);
    }

    static void p12whatIsLeftThen() {
        pays("5%3+100", 102);
        pays("6%3+100", 100);
        pays("7%3+100", 101);
        pays("[0-5]%3+100", 98);
        pays("[0-6]%3+100", 100);
        pays("[0-7]%3+100", 99);
        pays("7%[0-3]+100", 101);
        pays("[0-7]%[0-3]+100", 99);
    }

    static void p12fromTheLeftAndProductsFirst() {
        pays("10-3-2", 5);
        pays("100/5/2", 10);
        pays("100/5*2", 40);
        pays("2+3*4", 14);
        pays("2*3+4", 10);
        pays("20-6/2", 17);
        pays("20-7%4", 17);
        pays("[2+3]*4", 20);
        pays("100%7*2", 4);
    }

    static void p12lessMoreAndTheSame() {
        isSo("age<8", 0);
        isSo("age<9", 0);
        isSo("age<10", 1);
        isSo("age>8", 1);
        isSo("age>9", 0);
        isSo("age>10", 0);
        isSo("age=8", 0);
        isSo("age=9", 1);
        isSo("age=10", 0);
        isSo("0-1<0", 1);
        isSo("0-1>0", 0);
    }

    static void p12aTestIsBrokenOnEitherSide() {
        isSo("1/0=1", 0);
        isSo("1=1/0", 0);
        isSo("not 1/0=1", 0);
        isSo("not (1=1%0)", 0);
        isSo(MOST + "+1>0", 0);
        isSo(MOST + ">0", 1);
        isSo("0<" + MOST + "*2", 0);
    }

    static void p12orAsksBehindOnlyIfItMatters() {
        isSo("1=1 or 1/0=1", 1);
        isSo("1=2 or 1/0=1", 0);
        isSo("1/0=1 or 1=1", 0);
        isSo("not (1=2 or 1/0=1)", 0);
        isSo("1=2 or 1=1 or 1/0=1", 1);
        isSo("1=2 or 1=2", 0);
        isSo("1=2 or 1=1", 1);
    }

    static void p12andAsksBehindOnlyIfItMatters() {
        isSo("not (1=2 and 1/0=1)", 1);
        isSo("1=1 and 1/0=1", 0);
        isSo("not (1=1 and 1/0=1)", 0);
        isSo("not (1/0=1 and 1=2)", 0);
        isSo("1=2 and 1/0=1 or 1=1", 1);
        isSo("1=1 or 1=2 and 1/0=1", 1);
        isSo("1=1 and 1=1", 1);
        isSo("1=1 and 1=2", 0);
    }

    static void p12bothAheadOfOr() {
        isSo("1=1 or 1=1 and 1=2", 1);
        isSo("(1=1 or 1=1) and 1=2", 0);
        isSo("1=2 and 1=2 or 1=1", 1);
        isSo("1=2 and (1=2 or 1=1)", 0);
        isSo("not 1=2 and 1=2", 0);
        isSo("not (1=2 and 1=2)", 1);
        isSo("not not 1=1", 1);
        isSo("not 1<2", 0);
        isSo("not 2<1", 1);
        isSo("not 2>1", 0);
        isSo("not 1>2", 1);
        isSo("not not not 1=1", 0);
        isSo("not 1=1 or 1=1", 1);
    }

    static void p12aClauseHoldsIfNeitherPartIsBroken() {
        pays("1;pays 2 if 1/0=1", 1);
        pays("1;pays 1/0 if 1=1", 1);
        pays("1;pays 2 if 1=2", 1);
        pays("1;pays 2 if 1=1", 2);
        pays("1/0", 20);
        isSo("1/0=1;bars if 1=2", 0);
        isSo("1/0=1;bars", 1);
    }

    static void p12barsWithoutIfHolds() {
        x.person(0, 40, 20);
        rule("bars;grows 0;widens 0");
        x.of(0, 4);
        x.of(0, 5);
        due("BARRED", x.asks(0, 0, 40, 20, 2), 1);
    }

    static void p12oneTextLeavesNothingToTheNext() {
        x.person(0, 40, 20);
        x.image(0);
        String sum = "[[age+7]*2-wide]%5" + many("+long/3-1*age", 11);
        for (int i = 0; i < 12; i++) {
            lawFault("pays " + sum + " if", 5 + sum.length() + 3);
            due("read", law("pays 0;grows " + i % 9), 0);
            x.force(0);
            due("GROWS", x.of(0, 4), i % 9);
            due("PAYS", x.asks(0, 0, 40, 20, 1), 0);
            x.back(0);
        }
    }

    static void p12theWordsOfALaw() {
        x.person(3, 30, 10);
        x.person(9, 40, 20);
        x.nourish(1, -2);
        x.terms(0, 7);
        x.terms(2, 9);
        rule("pays person*100+tailor*10+mood");
        due("person, tailor, mood", x.asks(1, 2, 60, 50, 1), 129);
        rule("pays age*100+quarter*10+fed+5");
        due("age, quarter, fed", x.asks(1, 2, 60, 50, 1), 933);
        rule("grows tailor+2;widens long-wide-20");
        due("tailor is -1 of a PERSON", x.of(1, 4), 1);
        due("long, wide of a PERSON", x.of(1, 5), 0);
    }

    // ---- promise 13: orders ----

    static void p13theTapeIsEmptyThen() {
        orders("quarter");
        due("run", x.count(5), 0);
        orders("hem 0");
        due("not run", x.count(5), 0);
        orders("x");
        due("not read", x.count(5), 0);
    }

    static void p13blanksAlone() {
        ordersFault("", 0);
        ordersFault(" ", 1);
        ordersFault(many(" ", 400), 400);
    }

    static void p13noneIsRun() {
        due("not so", orders("quarter if 1=2"), 0);
        due("BROKEN", orders("quarter if 1/0=1"), 0);
        due("that is not REFUSED", x.status(), 0);
        due("NOW", x.count(12), 0);
        due("nothing to undo", x.count(4), 0);
    }

    static void p13twelveClauses() {
        due("12", orders("quarter" + many(";quarter", 11)), 12);
        ordersFault("quarter" + many(";quarter", 12), 96);
        ordersFault("quarter" + many(";quarter", 11) + ";", 96);
        due("nothing was run", x.count(12), 12);
    }

    static void p13timesFrom1To20() {
        ordersFault("quarter times 0", 14);
        due("1", orders("quarter times 1"), 1);
        due("20", orders("quarter times 20"), 20);
        ordersFault("quarter times 21", 14);
        due("020", orders("quarter times 020"), 20);
        ordersFault("quarter times 1000", 14);
        ordersFault("quarter times", 13);
        ordersFault("quarter times now", 14);
        ordersFault("quarter times [1]", 14);
        ordersFault("quarter times 1+1", 15);
        ordersFault("quarter times -1", 14);
        ordersFault("quarter times 2 times 2", 16);
        ordersFault("quarter if 1=1 times 2", 15);
        due("once without", orders("quarter"), 1);
        due("NOW", x.count(12), 42);
    }

    static void p13twelveTimesTwenty() {
        due("240", orders("quarter times 20" + many(";quarter times 20", 11)), 240);
        due("NOW", x.count(12), 240);
    }

    static void p13personsFrom0To7() {
        due("long 0", orders("quarter if long 0<0"), 1);
        due("long 7", orders("quarter if long 7<0"), 1);
        due("wide 7", orders("quarter if wide 7<0"), 1);
        ordersFault("quarter if long 8<0", 16);
        ordersFault("quarter if wide 8<0", 16);
        due("long 007", orders("quarter if long 007<0"), 1);
        ordersFault("quarter if long 1000<0", 16);
        ordersFault("quarter if long<0", 15);
        ordersFault("quarter if long now<0", 16);
        ordersFault("quarter if long [1]<0", 16);
        ordersFault("quarter if long", 15);
    }

    static void p13noSuchPersonIsMinus1() {
        x.person(64, 40, 20);
        due("long 0", orders("quarter if long 0=40"), 1);
        due("wide 0", orders("quarter if wide 0=20"), 1);
        due("long 1", orders("quarter if long 1=0-1"), 1);
        due("wide 1", orders("quarter if wide 1=0-1"), 1);
        due("wide 7", orders("quarter if wide 7=0-1"), 1);
        x.person(64, 50, 30);
        due("long 1", orders("quarter if long 1=50 and wide 1=30"), 1);
    }

    static void p13fiftyParts() {
        x.person(64, 40, 20);
        due("50 NUMBERS", orders("feed 0 by 0" + many("+0", 48)), 1);
        ordersFault("feed 0 by 0" + many("+0", 49), 10 + 98);
        due("P, TIMES aside", orders("feed 0 by 0" + many("+long 7", 48) + " times 20"), -3);
        due("no FAULT", x.fault(), NONE);
        ordersFault("feed 0 by 0" + many("+long 7", 48) + "+long 7 times 20", 10 + 1 + 48 * 7 + 1);
        due("50 in all CLAUSES", orders("feed 0 by 0" + many("+0", 23) + ";feed 0 by 0" + many("+0", 23)), 2);
        ordersFault("feed 0 by 0" + many("+0", 23) + ";feed 0 by 0" + many("+0", 23) + " if now=0", 58 + 57 + 4);
    }

    static void p13eightBrackets() {
        x.person(64, 40, 20);
        due("8", orders("feed " + many("[", 8) + "0" + many("]", 8) + " by 0"), 1);
        ordersFault("feed " + many("[", 9) + "0" + many("]", 9) + " by 0", 13);
        due("8 in the second", orders("feed 0 by " + many("[", 8) + "0" + many("]", 8)), 1);
        ordersFault("feed 0 by " + many("[", 9) + "0" + many("]", 9), 18);
        due("8 (", orders("quarter if " + many("(", 8) + "0=0" + many(")", 8)), 1);
        ordersFault("quarter if " + many("(", 9) + "0=0" + many(")", 9), 19);
    }

    static void p13numbersTo1000() {
        due("1000", orders("quarter if now<1000"), 1);
        ordersFault("quarter if now<1001", 15);
    }

    static void p13whatAClauseMayNotBe() {
        ordersFault("feed 0", 6);
        ordersFault("feed by 0", 5);
        ordersFault("feed 0 by", 9);
        ordersFault("feed 0 to 0", 7);
        ordersFault("hand 0", 6);
        ordersFault("hand 0 by 0", 7);
        ordersFault("hand 0 to", 9);
        ordersFault("hem", 3);
        ordersFault("hem 0 by 0", 6);
        ordersFault("button", 6);
        ordersFault("button 0 to 1", 9);
        ordersFault("quarter 1", 8);
        ordersFault("quarter if", 10);
        ordersFault("quarter;", 8);
        ordersFault("grows 1", 0);
        ordersFault("hem age", 4);
        ordersFault("hem quarter", 4);
        ordersFault("quarter quarter", 8);
    }

    static void p13feedAsNourishIsRefused() {
        x.person(64, 40, 20);
        due("FED 3", orders("feed 0 by 3"), 1);
        due("FED", x.of(0, 3), 3);
        due("FED 4", orders("feed 0 by 4"), -3);
        due("FED", x.of(0, 3), 3);
        due("FED -3", orders("feed 0 by 0-3"), 1);
        due("FED -4", orders("feed 0 by 0-4"), -3);
        due("PERSON 1", orders("feed 1 by 0"), -3);
        due("PERSON -1", orders("feed 0-1 by 0"), -3);
        due("FED", x.of(0, 3), -3);
        due("by -3 alone", x.count(8) * 100 + x.count(6) * 10 + x.count(7), 400);
    }

    static void p13hemAndButtonAsLetIsRefused() {
        wornCoat();
        due("COAT 1", orders("hem 1"), -3);
        due("COAT -1", orders("button 0-1"), -3);
        due("two HEMS", orders("hem 0 times 2"), 2);
        due("the third", orders("hem 0"), -3);
        due("four BUTTONS", orders("button 0 times 4"), -3);
        due("WIDE", x.coat(0, 1), 20);
        due("three BUTTONS", orders("button 0 times 3"), 3);
        due("the fourth", orders("button 0"), -3);
        due("LONG", x.coat(0, 0), 44);
        due("WIDE", x.coat(0, 1), 23);
    }

    static void p13handAsItIsRefused() {
        wornCoat();
        x.person(64, 41, 20);
        due("somebody WEARS it", orders("hand 0 to 1"), -3);
        x.nourish(0, 1);
        due("no WEARER behind a QUARTER", orders("quarter;hand 0 to 1"), 2);
        due("PAID twice", x.coat(0, 7), 2);
        due("COAT 1", orders("hand 1 to 0"), -3);
        due("COAT -1", orders("hand 0-1 to 0"), -3);
        due("PERSON 2", orders("hand 0 to 2"), -3);
        due("PERSON -1", orders("hand 0 to 0-1"), -3);
    }

    static void p13quarterAsItIsRefused() {
        x.terms(0, 990);
        due("to 999", orders("quarter times 9"), 9);
        due("behind 999", orders("quarter"), -3);
        x.terms(0, 990);
        due("behind 999", orders("quarter times 10"), -3);
        due("all is as it was", x.count(12), 990);
        due("not at 999", orders("quarter times 20 if now<999"), 9);
    }

    static void p13aBrokenSum() {
        x.person(64, 40, 20);
        due("the first", orders("feed 1/0 by 0"), -3);
        due("the second", orders("feed 0 by 1/0"), -3);
        due("beyond", orders("feed 0 by " + MOST + "+1"), -3);
        due("it is not asked, if not so", orders("feed 0 by 1/0 if 1=2"), 0);
        due("nor if BROKEN", orders("feed 0 by 1/0 if 1/0=1"), 0);
        due("that is far off", orders("feed " + MOST + " by 0"), -3);
        due("that is far off", orders("hem 0-" + MOST), -3);
    }

    static void p13eachTimeItsIfIsAsked() {
        x.person(0, 40, 20);
        due("till LONG 43", orders("quarter times 20 if long 0<43"), 3);
        due("every second", orders("feed 0 by 1 times 4 if done%2=0"), 1);
        due("done counts from 0 in each TEXT", orders("quarter if done=0;quarter if done=1;quarter if done=1"), 2);
        due("feeds are done too", orders("feed 0 by 0;quarter if done=1"), 2);
        due("hems that are not run are not", orders("hem 0 if 1=2;quarter if done=0"), 1);
    }

    static void p13paidInThisTextInAll() {
        wornCoat();
        x.nourish(0, 1);
        due("quarter and hand", orders("quarter;hand 0 to 0;quarter if paid=40;quarter if paid=41;quarter if paid=39"), 3);
        due("from 0 in each TEXT", orders("quarter if paid=0"), 1);
    }

    static void p13allIsAsItWasAheadOfIt() {
        wornCoat();
        x.person(0, 90, 90);
        x.let(0, 1);
        x.nourish(0, 2);
        due("the last can't be", orders("feed 0 by 3;hem 0;quarter;hand 0 to 1;feed 1 by 1;button 0 times 2;button 0"), -3);
        due("which one", x.stopped(), 6);
        due("FED", x.of(0, 3), 2);
        due("FED", x.of(1, 3), 0);
        due("WIDE", x.of(0, 2), 20);
        due("AGE", x.of(1, 0), 0);
        due("NOW", x.count(12), 0);
        due("LONG of the COAT", x.coat(0, 0), 40);
        due("WIDE of the COAT", x.coat(0, 1), 21);
        due("HEMS", x.coat(0, 5), 2);
        due("BUTTONS", x.coat(0, 6), 2);
        due("WEARER", x.coat(0, 4), 0);
        due("PAID", x.coat(0, 7), 0);
        due("PURSE", x.tailor(0, 1), 0);
        due("what can be undone", x.count(4), 1);
        due("undo", x.undo(), 1);
        due("BUTTONS", x.coat(0, 6), 3);
    }

    static void p13whatWasKeptIsKeptBehindMoreThanSixteen() {
        for (int i = 0; i < 16; i++) {
            x.quarter();
        }
        due("240, then one that can't be", orders(many("quarter times 20;", 11) + "hem 0"), -3);
        due("kept", x.count(4), 16);
        for (int i = 0; i < 16; i++) {
            due("undo", x.undo(), 2);
        }
        due("NOW", x.count(12), 0);
    }

    static void p13onlyWhatThisTextDidCanBeUndone() {
        wornCoat();
        x.bale(0, 0);
        due("none stays of ORDERS that can't be", orders("hem 0;button 0;hem 1"), -3);
        due("none", x.count(4), 0);
        due("one", orders("button 0"), 1);
        due("one", x.count(4), 1);
        due("one more", orders("hem 0"), 1);
        due("two", x.count(4), 2);
        due("LONG as it was", x.undo() * 100 + x.coat(0, 0), 140);
        due("WIDE as it was", x.undo() * 100 + x.coat(0, 1), 120);
        due("no more", x.undo(), -3);
    }

    static void p13manyTextsOneByOne() {
        x.person(64, 40, 20);
        String sum = "now" + many("+now", 40);
        for (int i = 0; i < 20; i++) {
            due("orders", orders("quarter;feed 0 by now-" + (i + 1) + ";feed 0 by " + sum + " if 1=2"), 2);
            due("FED", x.of(0, 3), 0);
            due("NOW", x.count(12), i + 1);
        }
    }

    // ---- promise 14: fault ----

    static void p14noneWithout() {
        due("ahead of any", x.fault(), NONE);
        lawFault("x", 0);
        law("bars");
        due("a LAW", x.fault(), NONE);
        ordersFault("quarter x", 8);
        orders("quarter");
        due("ORDERS", x.fault(), NONE);
        ordersFault("quarter x", 8);
        orders("hem 0");
        due("ORDERS that can't be", x.fault(), NONE);
    }

    static void p14theLatestThatReadAText() {
        lawFault("bars  x", 6);
        x.row();
        x.quarter();
        due("still", x.fault(), 6);
        x.image(0);
        x.back(0);
        due("back() leaves it", x.fault(), 6);
        for (int i = 0; i < 6; i++) {
            law("bars");
        }
        due("read", x.fault(), NONE);
        ordersFault("quarter   x", 10);
        law("x");
        due("not read for room", x.fault(), 10);
    }

    static void p14theEndsPlaceIsTheTextsLength() {
        lawFault("grows", 5);
        lawFault("grows   ", 8);
        lawFault("grows 1 if", 10);
        lawFault("grows 1 if ", 11);
        ordersFault("feed 0 by", 9);
        ordersFault("feed 0 by ", 10);
    }

    // ---- promise 15: stopped ----

    static void p15whichClause() {
        due("ahead of any", x.stopped(), NONE);
        orders("hem 0");
        due("the first", x.stopped(), 0);
        orders("quarter;hem 0");
        due("the second", x.stopped(), 1);
        orders(many("quarter;", 11) + "hem 0");
        due("the twelfth", x.stopped(), 11);
        orders("quarter;quarter if 1=2;hem 0;hem 0");
        due("those that are not run count too", x.stopped(), 2);
        x.terms(0, 995);
        orders("quarter times 3;quarter times 2");
        due("TIMES do not count", x.stopped(), 1);
    }

    static void p15noneWithout() {
        orders("hem 0");
        orders("quarter");
        due("all were run", x.stopped(), NONE);
        orders("hem 0");
        orders("quarter if 1=2");
        due("none was run", x.stopped(), NONE);
        orders("hem 0");
        orders("x");
        due("not read", x.stopped(), NONE);
        orders("hem 0");
        law("bars");
        x.image(0);
        x.back(0);
        due("others leave it", x.stopped(), 0);
    }

    /** PERSON 0 at AGE 64, who WEARS COAT 0, LONG 40 and WIDE 20, by TAILOR 0. */
    private static void wornCoat() {
        x.person(64, 40, 20);
        x.bale(0, 16);
        x.sew(0, 0, 0, 40, 20);
    }

    public static void main(String[] args) throws Exception {
        runAll(BoundsOfTextsTest.class);
    }
}
