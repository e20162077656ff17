/**
 * Promises 1 to 11 and 16 to 23: each sentence about PEOPLE, TAILORS, COATS, the TAPE, QUARTERS
 * and what can be undone that names a boundary: at it, one below it, one above it.
 */
public final class BoundsOfTownTest extends Sentences {
    private static final int LEAST = Integer.MIN_VALUE;
    private static final int MOST = Integer.MAX_VALUE;

    // ---- promise 1: a new object ----

    static void p01aTownWithoutPeople() {
        for (int what = 0; what <= 10; what++) {
            due("count(" + what + ")", x.count(what), 0);
        }
        due("of(0, 0)", x.of(0, 0), NOTHING);
        due("coat(0, 0)", x.coat(0, 0), NONE);
        due("drawn(0, 0)", x.drawn(0, 0), NONE);
    }

    static void p01noLawIsInForceAtFirst() {
        due("count(11)", x.count(11), NONE);
        due("force(NONE)", x.force(NONE), NONE);
    }

    static void p01theTermsAtFirst() {
        due("NOW", x.count(12), 0);
        due("FEASTS", x.count(13), 3);
        due("MOOD", x.count(14), 0);
    }

    static void p01clothAndPursesAtFirst() {
        for (int tailor = 0; tailor < 4; tailor++) {
            due("CLOTH", x.tailor(tailor, 0), 0);
            due("PURSE", x.tailor(tailor, 1), 0);
            due("would get", x.tailor(tailor, 2), 0);
        }
    }

    static void p01theConstants() {
        due("NONE", OutgrownCoats.NONE, -1);
        due("NOTHING", OutgrownCoats.NOTHING, -1000);
    }

    static void p01the512thCallStillAnswers() {
        for (int call = 1; call < 512; call++) {
            x.bale(4, 0);
        }
        due("count(6) as the 512th call", x.count(6), 511);
    }

    static void p01townsAreApart() {
        OutgrownCoats other = new OutgrownCoats();
        x.person(0, 40, 20);
        x.bale(0, 9);
        due("the other's PEOPLE", other.count(0), 0);
        due("the other's CLOTH", other.tailor(0, 0), 0);
    }

    // ---- promise 2: person ----

    static void p02ageFrom0To999() {
        due("AGE -1", x.person(-1, 40, 20), -1);
        due("AGE 1000", x.person(1000, 40, 20), -1);
        due("AGE least", x.person(LEAST, 40, 20), -1);
        due("AGE most", x.person(MOST, 40, 20), -1);
        due("AGE 0", x.person(0, 40, 20), 0);
        due("AGE 1", x.person(1, 40, 20), 1);
        due("AGE 998", x.person(998, 40, 20), 2);
        due("AGE 999", x.person(999, 40, 20), 3);
        due("AGE 0", x.of(0, 0), 0);
        due("AGE 999", x.of(3, 0), 999);
    }

    static void p02longFrom20To250() {
        due("LONG 19", x.person(0, 19, 20), -1);
        due("LONG 251", x.person(0, 251, 20), -1);
        due("LONG least", x.person(0, LEAST, 20), -1);
        due("LONG most", x.person(0, MOST, 20), -1);
        due("LONG 20", x.person(0, 20, 20), 0);
        due("LONG 21", x.person(0, 21, 20), 1);
        due("LONG 249", x.person(0, 249, 20), 2);
        due("LONG 250", x.person(0, 250, 20), 3);
        due("LONG 20", x.of(0, 1), 20);
        due("LONG 250", x.of(3, 1), 250);
    }

    static void p02wideFrom5To200() {
        due("WIDE 4", x.person(0, 40, 4), -1);
        due("WIDE 201", x.person(0, 40, 201), -1);
        due("WIDE least", x.person(0, 40, LEAST), -1);
        due("WIDE most", x.person(0, 40, MOST), -1);
        due("WIDE 5", x.person(0, 40, 5), 0);
        due("WIDE 6", x.person(0, 40, 6), 1);
        due("WIDE 199", x.person(0, 40, 199), 2);
        due("WIDE 200", x.person(0, 40, 200), 3);
        due("WIDE 5", x.of(0, 2), 5);
        due("WIDE 200", x.of(3, 2), 200);
    }

    static void p02eightAtMost() {
        for (int i = 0; i < 8; i++) {
            due("PERSON " + i, x.person(i, 40 + i, 20), i);
        }
        due("the ninth", x.person(8, 48, 20), -5);
        due("PEOPLE", x.count(0), 8);
        due("the eighth stays", x.of(7, 1), 47);
    }

    static void p02aNumberThatCannotBeComesAheadOfNoRoom() {
        fill(8);
        due("AGE 1000", x.person(1000, 40, 20), -1);
        due("LONG 19", x.person(0, 19, 20), -1);
        due("WIDE 201", x.person(0, 40, 201), -1);
    }

    static void p02whatIsRefusedAddsNobody() {
        x.person(0, 19, 20);
        due("PEOPLE", x.count(0), 0);
        due("the next number", x.person(0, 20, 20), 0);
    }

    // ---- promise 3: of ----

    static void p03noSuchPerson() {
        due("PERSON 0 of none", x.of(0, 0), NOTHING);
        x.person(7, 40, 20);
        due("PERSON -1", x.of(-1, 0), NOTHING);
        due("PERSON 0", x.of(0, 0), 7);
        due("PERSON 1", x.of(1, 0), NOTHING);
        fill(7);
        due("PERSON 7", x.of(7, 0), 0);
        due("PERSON 8", x.of(8, 0), NOTHING);
        due("PERSON least", x.of(LEAST, 0), NOTHING);
        due("PERSON most", x.of(MOST, 0), NOTHING);
    }

    static void p03noSuchWhat() {
        x.person(7, 40, 20);
        due("what -1", x.of(0, -1), NOTHING);
        due("what 0", x.of(0, 0), 7);
        due("what 6", x.of(0, 6), 0);
        due("what 7", x.of(0, 7), NOTHING);
        due("what least", x.of(0, LEAST), NOTHING);
        due("what most", x.of(0, MOST), NOTHING);
    }

    static void p03fedIs0AtFirst() {
        x.person(7, 40, 20);
        due("FED", x.of(0, 3), 0);
        due("WIDENS", x.of(0, 5), 0);
    }

    static void p03minusOneIsNotNothing() {
        x.person(7, 40, 20);
        x.nourish(0, -1);
        due("FED", x.of(0, 3), -1);
        due("WIDENS", x.of(0, 5), -1);
    }

    static void p03growsBelow64WithoutALaw() {
        x.person(62, 40, 20);
        x.person(63, 40, 20);
        x.person(64, 40, 20);
        x.person(65, 40, 20);
        x.person(0, 40, 20);
        x.person(999, 40, 20);
        int[] want = {1, 1, 0, 0, 1, 0};
        for (int i = 0; i < want.length; i++) {
            due("GROWS of " + i, x.of(i, 4), want[i]);
        }
    }

    static void p03growsFrom0To9ElseTheNearest() {
        x.person(7, 40, 20);
        int[][] told = {{-1000, 0}, {-1, 0}, {0, 0}, {1, 1}, {8, 8}, {9, 9}, {10, 9}, {1000, 9}};
        for (int[] t : told) {
            fresh();
            x.person(7, 40, 20);
            rule("grows 0+" + inText(t[0]));
            due("GROWS told " + t[0], x.of(0, 4), t[1]);
        }
    }

    static void p03widensFromMinus9To9ElseTheNearest() {
        int[][] told = {{-1000, -9}, {-10, -9}, {-9, -9}, {-8, -8}, {0, 0}, {8, 8}, {9, 9}, {10, 9}, {1000, 9}};
        for (int[] t : told) {
            fresh();
            x.person(7, 40, 20);
            rule("widens 0+" + inText(t[0]));
            due("WIDENS told " + t[0], x.of(0, 5), t[1]);
        }
    }

    static void p03widensByFedWithout() {
        x.person(7, 40, 20);
        for (int fed = -3; fed <= 3; fed++) {
            x.nourish(0, fed);
            due("WIDENS", x.of(0, 5), fed);
        }
    }

    static void p03theLastThatHolds() {
        x.person(63, 40, 20);
        rule("grows 2;grows 3;grows 4 if age = 64;widens 5;widens 1/0;widens 7 if 1/0 = 1");
        due("GROWS", x.of(0, 4), 3);
        due("WIDENS", x.of(0, 5), 5);
        rule("grows 3 if age = 64;widens 1/0");
        due("GROWS without", x.of(0, 4), 1);
        due("WIDENS without", x.of(0, 5), 0);
    }

    static void p03howManyCoatsOneWears() {
        x.person(0, 40, 20);
        x.person(0, 40, 20);
        x.bale(0, 999);
        rule("cloth 1");
        for (int i = 0; i < 10; i++) {
            due("COATS of 0", x.of(0, 6), i);
            x.sew(0, 0, 0, 40 + i % 2, 20);
        }
        due("COATS of 0", x.of(0, 6), 10);
        due("COATS of 1", x.of(1, 6), 0);
        x.quarter();
        due("those that are PAID are not worn", x.of(0, 6), 5);
    }

    // ---- promise 4: nourish ----

    static void p04fedFromMinus3To3() {
        x.person(0, 40, 20);
        due("-4", x.nourish(0, -4), -1);
        due("4", x.nourish(0, 4), -1);
        due("least", x.nourish(0, LEAST), -1);
        due("most", x.nourish(0, MOST), -1);
        due("FED", x.of(0, 3), 0);
        for (int fed = -3; fed <= 3; fed++) {
            due("nourish", x.nourish(0, fed), 0);
            due("FED", x.of(0, 3), fed);
        }
    }

    static void p04noSuchPerson() {
        due("PERSON 0 of none", x.nourish(0, 1), -2);
        x.person(0, 40, 20);
        due("PERSON -1", x.nourish(-1, 1), -2);
        due("PERSON 0", x.nourish(0, 1), 0);
        due("PERSON 1", x.nourish(1, 1), -2);
        fill(7);
        due("PERSON 7", x.nourish(7, 1), 0);
        due("PERSON 8", x.nourish(8, 1), -2);
        due("PERSON least", x.nourish(LEAST, 1), -2);
        due("PERSON most", x.nourish(MOST, 1), -2);
    }

    static void p04aNumberThatCannotBeComesAheadOfNoSuchPerson() {
        due("both", x.nourish(0, 4), -1);
        due("both", x.nourish(-1, -4), -1);
    }

    static void p04whatIsRefusedLeavesFed() {
        x.person(0, 40, 20);
        x.nourish(0, 2);
        x.nourish(0, 4);
        due("FED", x.of(0, 3), 2);
    }

    // ---- promise 5: bale ----

    static void p05tailorsFrom0To3() {
        due("TAILOR -1", x.bale(-1, 5), -1);
        due("TAILOR 4", x.bale(4, 5), -1);
        due("TAILOR least", x.bale(LEAST, 5), -1);
        due("TAILOR most", x.bale(MOST, 5), -1);
        due("TAILOR 0", x.bale(0, 5), 0);
        due("TAILOR 1", x.bale(1, 6), 0);
        due("TAILOR 2", x.bale(2, 7), 0);
        due("TAILOR 3", x.bale(3, 8), 0);
        for (int tailor = 0; tailor < 4; tailor++) {
            due("CLOTH", x.tailor(tailor, 0), 5 + tailor);
        }
    }

    static void p05clothFrom0To999() {
        due("1", x.bale(0, 1), 0);
        due("-1", x.bale(0, -1), -1);
        due("1000", x.bale(0, 1000), -1);
        due("least", x.bale(0, LEAST), -1);
        due("most", x.bale(0, MOST), -1);
        due("what is REFUSED leaves it", x.tailor(0, 0), 1);
        due("0", x.bale(0, 0), 1);
        due("999", x.bale(0, 999), 0);
        due("998", x.bale(0, 998), 999);
    }

    // ---- promise 6: tailor ----

    static void p06tailorsFrom0To3() {
        due("TAILOR -1", x.tailor(-1, 0), NONE);
        due("TAILOR 0", x.tailor(0, 0), 0);
        due("TAILOR 3", x.tailor(3, 0), 0);
        due("TAILOR 4", x.tailor(4, 0), NONE);
        due("TAILOR least", x.tailor(LEAST, 1), NONE);
        due("TAILOR most", x.tailor(MOST, 2), NONE);
    }

    static void p06whatFrom0To2() {
        due("what -1", x.tailor(0, -1), NONE);
        due("what 0", x.tailor(0, 0), 0);
        due("what 2", x.tailor(0, 2), 0);
        due("what 3", x.tailor(0, 3), NONE);
        due("what most", x.tailor(0, MOST), NONE);
    }

    static void p06halfIsCutUpwards() {
        for (int pay = 0; pay <= 5; pay++) {
            fresh();
            x.person(0, 40, 20);
            x.bale(1, 99);
            rule("pays " + pay);
            x.sew(1, 2, 0, 40, 20);
            due("the first of " + pay, x.tailor(1, 2), (pay + 1) / 2);
            due("the second of " + pay, x.tailor(2, 2), pay / 2);
            due("another of " + pay, x.tailor(0, 2), 0);
            due("nothing yet", x.tailor(1, 1), 0);
            due("PAID", x.quarter(), pay);
            due("the first of " + pay, x.tailor(1, 1), (pay + 1) / 2);
            due("the second of " + pay, x.tailor(2, 1), pay / 2);
            due("worn no more", x.tailor(1, 2), 0);
        }
    }

    static void p06oneTailorTwiceGetsAll() {
        x.person(0, 40, 20);
        x.bale(1, 99);
        rule("pays 21");
        x.sew(1, 1, 0, 40, 20);
        due("would get", x.tailor(1, 2), 21);
        x.quarter();
        due("PURSE", x.tailor(1, 1), 21);
    }

    static void p06coatsThatAreThereAlone() {
        x.person(0, 40, 20);
        x.bale(0, 999);
        for (int i = 0; i < 10; i++) {
            due("would get by " + i, x.tailor(0, 2), 20 * i);
            x.sew(0, 0, 0, 40, 20);
        }
        due("would get by ten", x.tailor(0, 2), 200);
        x.undo();
        due("would get by nine", x.tailor(0, 2), 180);
    }

    static void p06askedOfTailorAndWearerNow() {
        x.person(3, 40, 20);
        x.person(8, 40, 20);
        x.bale(2, 99);
        rule("pays person*100+age*10+tailor+quarter");
        x.sew(2, 2, 1, 50, 20);
        due("would get", x.tailor(2, 2), 182);
        x.terms(0, 3);
        due("would get", x.tailor(2, 2), 185);
    }

    // ---- promise 7: terms ----

    static void p07whatFrom0To2() {
        due("what -1", x.terms(-1, 0), -1);
        due("what 0", x.terms(0, 0), 0);
        due("what 1", x.terms(1, 3), 3);
        due("what 2", x.terms(2, 0), 0);
        due("what 3", x.terms(3, 0), -1);
        due("what least", x.terms(LEAST, 0), -1);
        due("what most", x.terms(MOST, 0), -1);
    }

    static void p07nowFrom0To999() {
        termFrom0To(0, 999, 0);
    }

    static void p07feastsFrom0To10() {
        termFrom0To(1, 10, 3);
    }

    static void p07moodFrom0To9() {
        termFrom0To(2, 9, 0);
    }

    private static void termFrom0To(int what, int high, int first) {
        due("-1", x.terms(what, -1), -1);
        due("one too many", x.terms(what, high + 1), -1);
        due("least", x.terms(what, LEAST), -1);
        due("most", x.terms(what, MOST), -1);
        due("what is REFUSED leaves it", x.count(12 + what), first);
        due("the highest", x.terms(what, high), first);
        due("one below", x.terms(what, high - 1), high);
        due("1", x.terms(what, 1), high - 1);
        due("0", x.terms(what, 0), 1);
        due("0", x.count(12 + what), 0);
    }

    static void p07quarterIsNowModulo4() {
        x.person(0, 40, 20);
        rule("grows quarter+1");
        int[] nows = {0, 1, 2, 3, 4, 5, 7, 8, 998, 999};
        for (int now : nows) {
            x.terms(0, now);
            due("quarter at " + now, x.of(0, 4), now % 4 + 1);
        }
    }

    // ---- promise 8: feed ----

    static void p08fourHundredAtMost() {
        for (int i = 1; i <= 20; i++) {
            due("feed", x.feed(0, 0, 0, 0, 0), 20 * i);
        }
        due("420", x.feed(0, 0, 0, 0, 0), NONE);
        due("bytes", x.count(5), 400);
        x.end(381);
        due("401", x.feed(0, 0, 0, 0, 0), NONE);
        due("bytes", x.count(5), 381);
        x.end(380);
        due("400", x.feed(0, 0, 0, 0, 0), 400);
        x.end(379);
        due("399", x.feed(0, 0, 0, 0, 0), 399);
        due("never REFUSED", x.count(6), 0);
        due("status", x.status(), 0);
    }

    static void p08fourBytesOfEachTheHighestFirst() {
        x.feed(0x001405FF, 0xFAC88015, 0x067F1607, 0x01170802, 0x18090319);
        due("six whole, two bytes left", x.row(), 6);
        int[][] want = {{0, 20, 5}, {255, 250, 200}, {128, 21, 6}, {127, 22, 7}, {1, 23, 8}, {2, 24, 9}};
        for (int i = 0; i < want.length; i++) {
            for (int what = 0; what < 3; what++) {
                due("of(" + i + ", " + what + ")", x.of(i, what), want[i][what]);
            }
        }
        due("the two bytes", x.moths(), 1);
    }

    static void p08bytesComeBehindTheTape() {
        x.feed(0x001E0500, 0, 0, 0, 0);
        x.end(3);
        due("feed", x.feed(0x001F0600, 0, 0, 0, 0), 23);
        x.end(6);
        due("row", x.row(), 2);
        due("the first", x.of(0, 1), 30);
        due("the second", x.of(1, 1), 31);
    }

    // ---- promise 9: end ----

    static void p09itsFirstBytesAlone() {
        due("end(0) of none", x.end(0), 0);
        due("end(1) of none", x.end(1), NONE);
        due("end(-1) of none", x.end(-1), NONE);
        x.feed(1, 2, 3, 4, 5);
        due("end(21)", x.end(21), NONE);
        due("end(-1)", x.end(-1), NONE);
        due("end(least)", x.end(LEAST), NONE);
        due("end(most)", x.end(MOST), NONE);
        due("bytes", x.count(5), 20);
        due("end(20)", x.end(20), 20);
        due("end(19)", x.end(19), 19);
        due("end(20)", x.end(20), NONE);
        due("bytes", x.count(5), 19);
        due("end(1)", x.end(1), 1);
        due("end(0)", x.end(0), 0);
        due("never REFUSED", x.count(6), 0);
    }

    static void p09ofFourHundred() {
        for (int i = 0; i < 20; i++) {
            x.feed(0, 0, 0, 0, 0);
        }
        due("end(401)", x.end(401), NONE);
        due("end(400)", x.end(400), 400);
        due("end(399)", x.end(399), 399);
    }

    static void p09whatWasCutOffIsGone() {
        tape("grows 12");
        x.end(7);
        due("law", x.law(), 0);
        x.force(0);
        x.person(0, 40, 20);
        due("GROWS", x.of(0, 4), 1);
    }

    // ---- promise 10: row ----

    static void p10anEmptyTape() {
        due("empty", x.row(), -6);
        due("one byte", row(1), 0);
        due("empty again", x.row(), -6);
        due("status", x.status(), -6);
    }

    static void p10oneWithinWhichTheTapeEnds() {
        due("one byte", row(1), 0);
        due("MOTHS", x.moths(), 1);
        due("two bytes", row(1, 40), 0);
        due("MOTHS", x.moths(), 1);
        due("three bytes", row(1, 40, 20), 1);
        due("MOTHS", x.moths(), 0);
        due("four bytes", row(1, 40, 20, 1), 1);
        due("MOTHS", x.moths(), 1);
        due("five bytes", row(1, 40, 20, 1, 40), 1);
        due("MOTHS", x.moths(), 1);
        due("six bytes", row(1, 40, 20, 1, 40, 20), 2);
        due("MOTHS", x.moths(), 0);
        due("PEOPLE", x.count(0), 5);
    }

    static void p10theTapeEndsWhereEndTellsIt() {
        for (int bytes = 3; bytes <= 6; bytes++) {
            fresh();
            tape(bytes(1, 40, 20, 2, 41, 21));
            x.end(bytes);
            due(bytes + " of six bytes", x.row(), bytes / 3);
            due("MOTHS", x.moths(), bytes % 3 == 0 ? 0 : 1);
        }
    }

    static void p10longAndWideThatCannotBe() {
        due("LONG 19, 20", row(1, 19, 20, 2, 20, 20), 1);
        due("LONG 250, 251", row(3, 250, 20, 4, 251, 20), 1);
        due("WIDE 4, 5", row(5, 40, 4, 6, 40, 5), 1);
        due("WIDE 200, 201", row(7, 40, 200, 8, 40, 201), 1);
        int[] ages = {2, 3, 6, 7};
        for (int i = 0; i < ages.length; i++) {
            due("AGE of " + i, x.of(i, 0), ages[i]);
        }
        due("PEOPLE", x.count(0), 4);
    }

    static void p10everyByteCanBeAnAge() {
        due("row", row(0, 40, 20, 255, 40, 20), 2);
        due("AGE", x.of(0, 0), 0);
        due("AGE", x.of(1, 0), 255);
        due("FED", x.of(1, 3), 0);
    }

    static void p10oneForWhichThereIsNoRoom() {
        fill(6);
        due("the seventh and the eighth", row(1, 40, 20, 2, 41, 20, 3, 42, 20), 2);
        due("MOTHS", x.moths(), 1);
        due("the eighth", x.of(7, 0), 2);
        due("no room for any", row(4, 40, 20), 0);
        due("MOTHS", x.moths(), 1);
        due("that is not REFUSED", x.status(), 0);
        due("PEOPLE", x.count(0), 8);
    }

    static void p10theTapeIsEmptyThen() {
        row(1, 40, 20, 7);
        due("bytes", x.count(5), 0);
    }

    static void p10aWholeTape() {
        tape(many(bytes(1, 40, 20), 133) + bytes(1));
        due("row", x.row(), 8);
        due("MOTHS", x.moths(), 126);
    }

    // ---- promise 11: moths ----

    static void p11noneAheadOfAny() {
        due("moths", x.moths(), 0);
        x.row();
        due("behind a REFUSED one", x.moths(), 0);
    }

    static void p11theLatestThatWasNotRefused() {
        row(1, 2, 3, 4);
        due("two", x.moths(), 2);
        x.row();
        due("still two", x.moths(), 2);
        row(1, 40, 20);
        due("none", x.moths(), 0);
    }

    // ---- promise 16: force ----

    static void p16noSuchLaw() {
        due("LAW 0 of none", x.force(0), -2);
        due("LAW -2", x.force(-2), -2);
        due("NONE", x.force(NONE), NONE);
        due("that is not REFUSED", x.status(), 0);
        law("grows 5");
        due("LAW 1", x.force(1), -2);
        due("LAW 0", x.force(0), NONE);
        for (int i = 1; i < 6; i++) {
            law("grows " + i);
        }
        due("LAW 6", x.force(6), -2);
        due("LAW 5", x.force(5), 0);
        due("LAW least", x.force(LEAST), -2);
        due("LAW most", x.force(MOST), -2);
        due("what is REFUSED leaves it", x.count(11), 5);
        due("NONE", x.force(NONE), 5);
        due("NONE", x.count(11), NONE);
    }

    static void p16noneHasNoClause() {
        x.person(63, 40, 20);
        rule("grows 5;widens 5;cloth 5;pays 5;bars");
        x.force(NONE);
        due("GROWS", x.of(0, 4), 1);
        due("WIDENS", x.of(0, 5), 0);
        due("CLOTH", x.asks(0, 0, 50, 20, 0), 20);
        due("PAYS", x.asks(0, 0, 50, 20, 1), 20);
        due("BARRED", x.asks(0, 0, 50, 20, 2), 0);
    }

    // ---- promise 17: asks ----

    static void p17noSuchPersonTailorWhat() {
        due("PERSON 0 of none", x.asks(0, 0, 40, 20, 0), NONE);
        x.person(0, 40, 20);
        due("PERSON -1", x.asks(-1, 0, 40, 20, 0), NONE);
        due("PERSON 1", x.asks(1, 0, 40, 20, 0), NONE);
        due("TAILOR -1", x.asks(0, -1, 40, 20, 0), NONE);
        due("TAILOR 4", x.asks(0, 4, 40, 20, 0), NONE);
        due("what -1", x.asks(0, 0, 40, 20, -1), NONE);
        due("what 4", x.asks(0, 0, 40, 20, 4), NONE);
        due("TAILOR 0, what 0", x.asks(0, 0, 40, 20, 0), 16);
        due("TAILOR 3, what 3", x.asks(0, 3, 40, 20, 3), 1);
        due("never REFUSED", x.count(6) + x.count(7), 0);
    }

    static void p17noSuchCoatCanBe() {
        x.person(0, 20, 5);
        for (int what = 0; what < 4; what++) {
            due("LONG 19", x.asks(0, 0, 19, 20, what), NONE);
            due("LONG 301", x.asks(0, 0, 301, 20, what), NONE);
            due("WIDE 4", x.asks(0, 0, 40, 4, what), NONE);
            due("WIDE 251", x.asks(0, 0, 40, 251, what), NONE);
        }
        due("LONG 20", x.asks(0, 0, 20, 20, 3), 1);
        due("LONG 300", x.asks(0, 0, 300, 20, 3), 1);
        due("WIDE 5", x.asks(0, 0, 40, 5, 3), 1);
        due("WIDE 250", x.asks(0, 0, 40, 250, 3), 1);
    }

    static void p17longTimesWideBy50Cut() {
        x.person(0, 20, 5);
        due("100 by 50", x.asks(0, 0, 20, 5, 0), 2);
        due("2450 by 50", x.asks(0, 0, 49, 50, 0), 49);
        due("2499 by 50", x.asks(0, 0, 49, 51, 0), 49);
        due("2500 by 50", x.asks(0, 0, 50, 50, 0), 50);
        due("49950 by 50", x.asks(0, 0, 222, 225, 0), 999);
    }

    static void p17clothToldFrom0To999() {
        askedWhenTold("cloth", 0, new int[][] {{-1000, 0}, {-1, 0}, {0, 0}, {1, 1}, {998, 998}, {999, 999}, {1000, 999}});
    }

    static void p17payToldFrom0To999() {
        askedWhenTold("pays", 1, new int[][] {{-1000, 0}, {-1, 0}, {0, 0}, {1, 1}, {998, 998}, {999, 999}, {1000, 999}});
    }

    private static void askedWhenTold(String verb, int what, int[][] told) {
        for (int[] t : told) {
            fresh();
            x.person(0, 40, 20);
            rule(verb + " 0+" + inText(t[0]));
            due(verb + " told " + t[0], x.asks(0, 0, 40, 20, what), t[1]);
        }
    }

    static void p17paysTwentyWithout() {
        x.person(0, 40, 20);
        due("no LAW", x.asks(0, 0, 300, 250, 1), 20);
        rule("pays 7 if long < 40");
        due("none that HOLDS", x.asks(0, 0, 40, 20, 1), 20);
        due("one that HOLDS", x.asks(0, 0, 39, 20, 1), 7);
    }

    static void p17fitsIfNeitherLongerNorWider() {
        x.person(0, 40, 20);
        int[][] sizes = {{39, 20, 0}, {40, 20, 1}, {41, 20, 1}, {40, 19, 0}, {40, 21, 1}, {39, 21, 0}, {41, 19, 0}};
        for (int[] s : sizes) {
            due("FITS " + s[0] + " by " + s[1], x.asks(0, 0, s[0], s[1], 3), s[2]);
        }
    }

    static void p17barredIfOneThatBarsHolds() {
        x.person(0, 40, 20);
        rule("bars if tailor = 2;bars if 1/0 = 1;bars if long = 50");
        due("by none", x.asks(0, 1, 40, 20, 2), 0);
        due("by the first", x.asks(0, 2, 40, 20, 2), 1);
        due("by the last", x.asks(0, 1, 50, 20, 2), 1);
        due("not one less", x.asks(0, 1, 49, 20, 2), 0);
        due("not one more", x.asks(0, 1, 51, 20, 2), 0);
    }

    static void p17longAndWideAreTheCoats() {
        x.person(9, 40, 20);
        x.nourish(0, 2);
        rule("cloth long*3;pays wide*4+tailor+age*10+fed;bars if long = 60 and wide = 30");
        due("CLOTH", x.asks(0, 3, 60, 30, 0), 180);
        due("PAYS", x.asks(0, 3, 60, 30, 1), 120 + 3 + 90 + 2);
        due("BARRED", x.asks(0, 3, 60, 30, 2), 1);
    }

    // ---- promise 18: sew ----

    static void p18tailorsFrom0To3() {
        x.person(0, 40, 20);
        due("first -1", x.sew(-1, 0, 0, 40, 20), -1);
        due("first 4", x.sew(4, 0, 0, 40, 20), -1);
        due("second -1", x.sew(0, -1, 0, 40, 20), -1);
        due("second 4", x.sew(0, 4, 0, 40, 20), -1);
        x.bale(0, 16);
        x.bale(3, 16);
        due("0 and 3", x.sew(0, 3, 0, 40, 20), 0);
        due("3 and 0", x.sew(3, 0, 0, 40, 20), 1);
    }

    static void p18longFrom20To300() {
        x.person(64, 20, 5);
        x.bale(0, 999);
        due("LONG 19", x.sew(0, 0, 0, 19, 5), -1);
        due("LONG 301", x.sew(0, 0, 0, 301, 5), -1);
        due("LONG 20", x.sew(0, 0, 0, 20, 5), 0);
        due("LONG 21", x.sew(0, 0, 0, 21, 5), 1);
        due("LONG 299", x.sew(0, 0, 0, 299, 5), 2);
        due("LONG 300", x.sew(0, 0, 0, 300, 5), 3);
    }

    static void p18wideFrom5To250() {
        x.person(64, 20, 5);
        x.bale(0, 999);
        due("WIDE 4", x.sew(0, 0, 0, 20, 4), -1);
        due("WIDE 251", x.sew(0, 0, 0, 20, 251), -1);
        due("WIDE 5", x.sew(0, 0, 0, 20, 5), 0);
        due("WIDE 6", x.sew(0, 0, 0, 20, 6), 1);
        due("WIDE 249", x.sew(0, 0, 0, 20, 249), 2);
        due("WIDE 250", x.sew(0, 0, 0, 20, 250), 3);
    }

    static void p18noSuchPerson() {
        x.bale(0, 999);
        due("PERSON 0 of none", x.sew(0, 0, 0, 40, 20), -2);
        x.person(0, 40, 20);
        due("PERSON -1", x.sew(0, 0, -1, 40, 20), -2);
        due("PERSON 1", x.sew(0, 0, 1, 40, 20), -2);
        due("PERSON 0", x.sew(0, 0, 0, 40, 20), 0);
    }

    static void p18itFitsThatPersonNow() {
        x.person(0, 40, 20);
        x.bale(0, 999);
        due("shorter", x.sew(0, 0, 0, 39, 20), -3);
        due("narrower", x.sew(0, 0, 0, 40, 19), -3);
        due("just", x.sew(0, 0, 0, 40, 20), 0);
        x.quarter();
        due("shorter now", x.sew(0, 0, 0, 40, 20), -3);
        due("just now", x.sew(0, 0, 0, 41, 20), 1);
    }

    static void p18theFirstTailorHasTheClothItTakes() {
        x.person(0, 40, 20);
        x.bale(1, 999);
        due("none", x.sew(0, 1, 0, 40, 20), -3);
        x.bale(0, 15);
        due("one too little", x.sew(0, 1, 0, 40, 20), -3);
        due("that is left", x.tailor(0, 0), 15);
        x.bale(0, 16);
        due("just enough", x.sew(0, 1, 0, 40, 20), 0);
        due("none is left", x.tailor(0, 0), 0);
        x.bale(0, 17);
        due("one too much", x.sew(0, 1, 0, 40, 20), 1);
        due("one is left", x.tailor(0, 0), 1);
        due("the second TAILOR's stays", x.tailor(1, 0), 999);
    }

    static void p18aCoatThatTakesNoCloth() {
        x.person(0, 40, 20);
        rule("cloth 0-5");
        due("sew", x.sew(0, 0, 0, 40, 20), 0);
        due("CLOTH", x.tailor(0, 0), 0);
        rule("cloth 1000");
        x.bale(1, 998);
        due("one less than the most", x.sew(1, 1, 0, 40, 20), -3);
        x.bale(1, 999);
        due("the most", x.sew(1, 1, 0, 40, 20), 1);
    }

    static void p18barredForTheFirstTailorAlone() {
        x.person(0, 40, 20);
        x.bale(0, 999);
        x.bale(1, 999);
        rule("bars if tailor = 1");
        due("the first", x.sew(1, 0, 0, 40, 20), -3);
        due("the second", x.sew(0, 1, 0, 40, 20), 0);
    }

    static void p18tenAtMost() {
        x.person(0, 40, 20);
        x.bale(0, 999);
        for (int i = 0; i < 10; i++) {
            due("COAT " + i, x.sew(0, 0, 0, 40 + i, 20), i);
        }
        int left = x.tailor(0, 0);
        due("the eleventh", x.sew(0, 0, 0, 60, 20), -5);
        due("COATS", x.count(1), 10);
        due("CLOTH", x.tailor(0, 0), left);
        due("the tenth stays", x.coat(9, 0), 49);
    }

    static void p18theFirstOfTheRefusalsInTheirOrder() {
        x.person(0, 40, 20);
        due("-1 ahead of -2", x.sew(4, 0, 1, 40, 20), -1);
        due("-1 ahead of -3", x.sew(0, 0, 0, 19, 20), -1);
        due("-2 ahead of -3", x.sew(0, 0, 1, 40, 20), -2);
        x.bale(0, 999);
        for (int i = 0; i < 10; i++) {
            x.sew(0, 0, 0, 40, 20);
        }
        due("-1 ahead of -5", x.sew(0, 4, 0, 40, 20), -1);
        due("-2 ahead of -5", x.sew(0, 0, 1, 40, 20), -2);
        due("-3 ahead of -5", x.sew(0, 0, 0, 39, 20), -3);
        due("-3 ahead of -5, by CLOTH", x.sew(1, 0, 0, 40, 20), -3);
        due("-5", x.sew(0, 0, 0, 40, 20), -5);
    }

    static void p18whatIsRefusedSewsNothing() {
        x.person(0, 40, 20);
        x.bale(0, 999);
        x.sew(0, 0, 0, 39, 20);
        x.sew(0, 0, 1, 40, 20);
        due("COATS", x.count(1), 0);
        due("CLOTH", x.tailor(0, 0), 999);
        due("nothing to undo", x.count(4), 0);
    }

    // ---- promise 19: coat ----

    static void p19noSuchCoat() {
        due("COAT 0 of none", x.coat(0, 0), NONE);
        x.person(64, 40, 20);
        x.bale(0, 999);
        x.sew(0, 0, 0, 40, 20);
        due("COAT -1", x.coat(-1, 0), NONE);
        due("COAT 0", x.coat(0, 0), 40);
        due("COAT 1", x.coat(1, 0), NONE);
        for (int i = 1; i < 10; i++) {
            x.sew(0, 0, 0, 40 + i, 20);
        }
        due("COAT 9", x.coat(9, 0), 49);
        due("COAT 10", x.coat(10, 0), NONE);
        due("COAT least", x.coat(LEAST, 0), NONE);
        due("COAT most", x.coat(MOST, 0), NONE);
    }

    static void p19noSuchWhat() {
        x.person(64, 40, 20);
        x.bale(0, 999);
        x.sew(0, 0, 0, 40, 20);
        due("what -1", x.coat(0, -1), NONE);
        due("what 0", x.coat(0, 0), 40);
        due("what 8", x.coat(0, 8), 20);
        due("what 9", x.coat(0, 9), NONE);
    }

    static void p19hemsButtonsPaidAtFirst() {
        x.person(64, 40, 20);
        x.bale(0, 999);
        x.sew(0, 0, 0, 40, 20);
        due("HEMS", x.coat(0, 5), 2);
        due("BUTTONS", x.coat(0, 6), 3);
        due("PAID", x.coat(0, 7), 0);
    }

    static void p19noWearer() {
        x.person(0, 40, 20);
        x.person(0, 50, 30);
        x.bale(2, 999);
        x.sew(2, 3, 0, 40, 20);
        due("WEARER", x.coat(0, 4), 0);
        x.quarter();
        due("WEARER", x.coat(0, 4), NONE);
        due("would PAY", x.coat(0, 8), NONE);
        due("PAID", x.coat(0, 7), 1);
        due("its TAILORS stay", x.coat(0, 2) * 10 + x.coat(0, 3), 23);
    }

    static void p19whatEachWouldPayByItself() {
        x.person(64, 40, 20);
        x.person(64, 41, 21);
        x.bale(1, 99);
        x.bale(3, 99);
        rule("pays long*5+wide+tailor*100+person");
        x.sew(1, 3, 0, 41, 22);
        x.sew(3, 1, 1, 42, 21);
        due("COAT 0", x.coat(0, 8), 205 + 22 + 100);
        due("COAT 1", x.coat(1, 8), 210 + 21 + 300 + 1);
        x.let(0, 1);
        due("COAT 0 with a BUTTON moved", x.coat(0, 8), 205 + 23 + 100);
        due("TAILOR 1 would get", x.tailor(1, 2), 164 + 266);
        due("TAILOR 3 would get", x.tailor(3, 2), 164 + 266);
        x.nourish(0, 3);
        x.nourish(1, 1);
        due("COAT 1 is PAID", x.quarter(), 532);
        due("COAT 0 is PAID", x.quarter(), 328);
    }

    // ---- promise 20: let ----

    static void p20whatIs0Or1() {
        oneCoat();
        due("what -1", x.let(0, -1), -1);
        due("what 2", x.let(0, 2), -1);
        due("what least", x.let(0, LEAST), -1);
        due("what most", x.let(0, MOST), -1);
        due("what 0", x.let(0, 0), 42);
        due("what 1", x.let(0, 1), 21);
    }

    static void p20noSuchCoat() {
        due("COAT 0 of none", x.let(0, 0), -2);
        oneCoat();
        due("COAT -1", x.let(-1, 0), -2);
        due("COAT 1", x.let(1, 0), -2);
        due("COAT 0", x.let(0, 0), 42);
        due("-1 ahead of -2", x.let(1, 2), -1);
    }

    static void p20twoHems() {
        oneCoat();
        due("the first", x.let(0, 0), 42);
        due("one is left", x.coat(0, 5), 1);
        due("the second", x.let(0, 0), 44);
        due("none is left", x.coat(0, 5), 0);
        due("the third", x.let(0, 0), -3);
        due("LONG", x.coat(0, 0), 44);
        due("WIDE", x.coat(0, 1), 20);
        due("HEMS", x.coat(0, 5), 0);
        due("BUTTONS", x.coat(0, 6), 3);
        due("-1 ahead of -3", x.let(0, 2), -1);
        due("-2 ahead of -3", x.let(1, 0), -2);
    }

    static void p20threeButtons() {
        oneCoat();
        due("the first", x.let(0, 1), 21);
        due("the second", x.let(0, 1), 22);
        due("one is left", x.coat(0, 6), 1);
        due("the third", x.let(0, 1), 23);
        due("the fourth", x.let(0, 1), -3);
        due("LONG", x.coat(0, 0), 40);
        due("WIDE", x.coat(0, 1), 23);
        due("BUTTONS", x.coat(0, 6), 0);
        due("HEMS", x.coat(0, 5), 2);
    }

    static void p20noneIsLeftIsAllThatForbidsIt() {
        x.person(64, 20, 5);
        x.bale(0, 999);
        x.sew(0, 0, 0, 300, 5);
        x.sew(0, 0, 0, 20, 250);
        due("LONG 300 and 2", x.let(0, 0), 302);
        due("LONG 302 and 2", x.let(0, 0), 304);
        due("WIDE 250 and 1", x.let(1, 1), 251);
    }

    static void p20aCoatWithoutWearer() {
        oneCoat();
        x.nourish(0, 1);
        x.quarter();
        due("no WEARER", x.coat(0, 4), NONE);
        due("HEM", x.let(0, 0), 42);
        due("BUTTON", x.let(0, 1), 21);
    }

    // ---- promise 21: quarter ----

    static void p21behind999ItCannotBe() {
        x.person(0, 40, 20);
        x.terms(0, 997);
        due("to 998", x.quarter(), 0);
        due("to 999", x.quarter(), 0);
        due("behind 999", x.quarter(), -3);
        due("NOW", x.count(12), 999);
        due("what is REFUSED leaves LONG", x.of(0, 1), 42);
        due("what is REFUSED leaves AGE", x.of(0, 0), 2);
        due("and what can be undone", x.count(4), 2);
    }

    static void p21ageIs999AtMost() {
        x.person(998, 40, 20);
        x.quarter();
        due("AGE", x.of(0, 0), 999);
        x.quarter();
        due("AGE", x.of(0, 0), 999);
    }

    static void p21aTownWithoutPeople() {
        due("quarter", x.quarter(), 0);
        due("NOW", x.count(12), 1);
    }

    static void p21withinLong250() {
        x.person(0, 240, 20);
        x.person(0, 241, 20);
        x.person(0, 242, 20);
        x.person(0, 250, 20);
        rule("grows 9");
        x.quarter();
        int[] want = {249, 250, 250, 250};
        for (int i = 0; i < want.length; i++) {
            due("LONG of " + i, x.of(i, 1), want[i]);
        }
    }

    static void p21withinWide200() {
        x.person(0, 40, 196);
        x.person(0, 40, 197);
        x.person(0, 40, 198);
        x.person(0, 40, 200);
        widenAllBy(3);
        int[] want = {199, 200, 200, 200};
        for (int i = 0; i < want.length; i++) {
            due("WIDE of " + i, x.of(i, 2), want[i]);
        }
    }

    static void p21withinWide5() {
        x.person(0, 40, 9);
        x.person(0, 40, 8);
        x.person(0, 40, 7);
        x.person(0, 40, 5);
        widenAllBy(-3);
        int[] want = {6, 5, 5, 5};
        for (int i = 0; i < want.length; i++) {
            due("WIDE of " + i, x.of(i, 2), want[i]);
        }
    }

    private static void widenAllBy(int fed) {
        for (int i = 0; i < x.count(0); i++) {
            x.nourish(i, fed);
        }
        x.quarter();
    }

    static void p21growsFrom0To9ElseTheNearest() {
        int[][] told = {{-1000, 0}, {-1, 0}, {0, 0}, {1, 1}, {8, 8}, {9, 9}, {10, 9}, {1000, 9}};
        for (int[] t : told) {
            fresh();
            x.person(7, 40, 20);
            rule("grows 0+" + inText(t[0]));
            x.quarter();
            due("LONG, told " + t[0], x.of(0, 1), 40 + t[1]);
        }
    }

    static void p21widensFromMinus9To9ElseTheNearest() {
        int[][] told = {{-1000, -9}, {-10, -9}, {-9, -9}, {-8, -8}, {0, 0}, {8, 8}, {9, 9}, {10, 9}, {1000, 9}};
        for (int[] t : told) {
            fresh();
            x.person(7, 40, 20);
            rule("widens 0+" + inText(t[0]));
            x.quarter();
            due("WIDE, told " + t[0], x.of(0, 2), 20 + t[1]);
        }
    }

    static void p21growsBelow64WithoutALaw() {
        x.person(63, 40, 20);
        x.person(64, 40, 20);
        x.quarter();
        due("at 63", x.of(0, 1), 41);
        due("at 64", x.of(1, 1), 40);
        x.quarter();
        due("at 64 then", x.of(0, 1), 41);
    }

    static void p21bothAskedAsOneWasNowAsItWas() {
        x.person(0, 40, 20);
        x.terms(0, 3);
        rule("grows quarter+age+wide-20;widens quarter-3+age+long-40");
        x.quarter();
        due("LONG by quarter 3, AGE 0, WIDE 20", x.of(0, 1), 43);
        due("WIDE by quarter 3, AGE 0, LONG 40", x.of(0, 2), 20);
        x.quarter();
        due("LONG by quarter 0, AGE 1, WIDE 20", x.of(0, 1), 44);
        due("WIDE by quarter 0, AGE 1, LONG 43", x.of(0, 2), 21);
    }

    static void p21thoseThatDoNotFitArePaid() {
        x.person(0, 40, 20);
        x.bale(0, 999);
        x.sew(0, 0, 0, 40, 22);
        x.sew(0, 0, 0, 41, 22);
        x.sew(0, 0, 0, 90, 20);
        x.sew(0, 0, 0, 90, 21);
        x.nourish(0, 1);
        due("two", x.quarter(), 40);
        int[] want = {NONE, 0, NONE, 0};
        for (int i = 0; i < want.length; i++) {
            due("WEARER of " + i, x.coat(i, 4), want[i]);
            due("PAID of " + i, x.coat(i, 7), want[i] == NONE ? 1 : 0);
        }
        due("those that are not worn are not PAID again", x.quarter(), 40);
        due("PAID", x.coat(0, 7), 1);
    }

    static void p21paidAsAllIsThen() {
        x.person(8, 40, 20);
        x.bale(0, 999);
        x.terms(0, 3);
        rule("pays age*10+quarter+100;grows 1");
        x.sew(0, 0, 0, 40, 20);
        due("AGE 9, quarter 0", x.quarter(), 190);
    }

    // ---- promise 22: hand ----

    static void p22noSuchCoatNoSuchPerson() {
        due("neither", x.hand(0, 0), -2);
        oneCoat();
        due("COAT -1", x.hand(-1, 0), -2);
        due("COAT 1", x.hand(1, 0), -2);
        due("PERSON -1, -2 ahead of -3", x.hand(0, -1), -2);
        due("PERSON 1, -2 ahead of -3", x.hand(0, 1), -2);
        due("somebody WEARS it", x.hand(0, 0), -3);
        due("COAT least", x.hand(LEAST, 0), -2);
        due("PERSON most", x.hand(0, MOST), -2);
    }

    static void p22paidAtOnceIfItDoesNotFit() {
        x.person(0, 40, 20);
        x.bale(0, 999);
        x.sew(0, 1, 0, 40, 20);
        x.quarter();
        x.person(64, 40, 20);
        x.person(64, 41, 20);
        x.person(64, 40, 21);
        due("one longer", x.hand(0, 2), 20);
        due("no WEARER", x.coat(0, 4), NONE);
        due("one wider", x.hand(0, 3), 20);
        due("PAID", x.coat(0, 7), 3);
        due("PURSE", x.tailor(0, 1), 30);
        due("it FITS just", x.hand(0, 1), 0);
        due("WEARER", x.coat(0, 4), 1);
        due("PAID", x.coat(0, 7), 3);
        due("somebody WEARS it", x.hand(0, 1), -3);
        due("somebody WEARS it", x.hand(0, 2), -3);
        due("what is REFUSED leaves the WEARER", x.coat(0, 4), 1);
        due("and the PURSE", x.tailor(0, 1), 30);
    }

    static void p22paidWithNothing() {
        x.person(0, 40, 20);
        x.bale(0, 999);
        x.sew(0, 1, 0, 40, 20);
        x.quarter();
        rule("pays 0");
        due("hand", x.hand(0, 0), 0);
        due("no WEARER", x.coat(0, 4), NONE);
        due("PAID", x.coat(0, 7), 2);
    }

    static void p22barsAreOfSewingAlone() {
        x.person(0, 40, 20);
        x.bale(0, 999);
        x.sew(0, 1, 0, 40, 20);
        x.quarter();
        x.person(0, 40, 20);
        rule("bars");
        due("hand", x.hand(0, 1), 0);
        due("WEARER", x.coat(0, 4), 1);
    }

    // ---- promise 23: undo ----

    static void p23thereIsNone() {
        due("at first", x.undo(), -3);
        x.quarter();
        due("one", x.undo(), 2);
        due("none again", x.undo(), -3);
    }

    static void p23whatIsUndone() {
        x.person(0, 40, 20);
        x.bale(0, 100);
        x.sew(0, 0, 0, 40, 20);
        x.let(0, 1);
        x.quarter();
        x.hand(0, 0);
        int[] want = {3, 2, 1, 0, -3};
        for (int i = 0; i < want.length; i++) {
            due("undo", x.undo(), want[i]);
        }
        due("CLOTH", x.tailor(0, 0), 100);
        due("PURSE", x.tailor(0, 1), 0);
        due("LONG", x.of(0, 1), 40);
        due("AGE", x.of(0, 0), 0);
        due("NOW", x.count(12), 0);
        due("COATS", x.count(1), 0);
    }

    static void p23sixteenAreKept() {
        for (int i = 1; i <= 15; i++) {
            x.quarter();
        }
        due("15", x.count(4), 15);
        x.quarter();
        due("16", x.count(4), 16);
        x.quarter();
        due("17", x.count(4), 16);
        for (int i = 1; i <= 16; i++) {
            due("undo", x.undo(), 2);
            due("NOW", x.count(12), 17 - i);
        }
        due("the seventeenth", x.undo(), -3);
        due("NOW", x.count(12), 1);
    }

    static void p23sixteenOfOrdersAreKept() {
        x.quarter();
        orders("quarter times 15");
        due("1 and 15", x.count(4), 16);
        orders("quarter times 17");
        due("17 more", x.count(4), 16);
        for (int i = 1; i <= 16; i++) {
            due("undo", x.undo(), 2);
        }
        due("NOW", x.count(12), 17);
        due("no more", x.undo(), -3);
    }

    static void p23theRingGoesRoundAndRound() {
        for (int i = 0; i < 40; i++) {
            x.quarter();
        }
        for (int i = 0; i < 5; i++) {
            x.undo();
        }
        for (int i = 0; i < 7; i++) {
            x.quarter();
        }
        due("kept", x.count(4), 16);
        due("NOW", x.count(12), 42);
        for (int i = 0; i < 16; i++) {
            due("undo", x.undo(), 2);
        }
        due("NOW", x.count(12), 26);
    }

    static void p23nothingAheadOfPersonBaleRowTerms() {
        x.quarter();
        x.person(0, 40, 20);
        due("person", x.undo(), -3);
        x.quarter();
        x.bale(0, 0);
        due("bale", x.undo(), -3);
        x.quarter();
        row(1);
        due("row, though nobody came", x.undo(), -3);
        for (int what = 0; what < 3; what++) {
            x.quarter();
            x.terms(what, x.count(12 + what));
            due("terms", x.undo(), -3);
        }
        due("NOW", x.count(12), 6);
    }

    static void p23thoseThatAreRefusedLeaveIt() {
        x.quarter();
        x.person(0, 19, 20);
        due("person", x.count(4), 1);
        x.bale(4, 0);
        due("bale", x.count(4), 1);
        x.row();
        due("row", x.count(4), 1);
        x.terms(3, 0);
        due("terms", x.count(4), 1);
        fill(7);
        x.quarter();
        x.person(0, 40, 20);
        x.quarter();
        x.person(0, 40, 20);
        due("person without room", x.count(4), 1);
        due("undo", x.undo(), 2);
    }

    static void p23otherCallsLeaveIt() {
        x.person(0, 40, 20);
        x.quarter();
        x.nourish(0, 1);
        law("grows 2");
        x.force(0);
        x.sight(1, 0, 20);
        x.forget();
        x.years(0, 1);
        x.image(0);
        tape("");
        orders("feed 0 by 2");
        due("one", x.count(4), 1);
        due("undo", x.undo(), 2);
        due("FED as it was ahead of it", x.of(0, 3), 0);
        due("the LAW in FORCE stays", x.count(11), 0);
    }

    static void p23whatIsRefusedCannotBeUndone() {
        oneCoat();
        x.sew(0, 0, 0, 39, 20);
        x.let(0, 2);
        x.hand(0, 0);
        x.terms(0, 999);
        x.quarter();
        due("none", x.count(4), 0);
        due("undo", x.undo(), -3);
    }

    static void p23nothingBehindBack() {
        x.image(0);
        x.quarter();
        x.back(0);
        due("none", x.count(4), 0);
        due("undo", x.undo(), -3);
    }

    static void p23aCoatSewnInThePlaceOfOneUndoneIsNew() {
        x.person(0, 40, 20);
        x.bale(0, 99);
        x.sew(0, 1, 0, 40, 20);
        x.let(0, 0);
        x.let(0, 1);
        x.nourish(0, 1);
        orders("quarter times 3");
        due("PAID", x.coat(0, 7), 1);
        for (int i = 0; i < 6; i++) {
            x.undo();
        }
        due("COATS", x.count(1), 0);
        x.sew(0, 2, 0, 41, 21);
        int[] want = {41, 21, 0, 2, 0, 2, 3, 0, 20};
        for (int what = 0; what < want.length; what++) {
            due("coat(0, " + what + ")", x.coat(0, what), want[what]);
        }
    }

    static void p23undoCannotBeUndone() {
        x.quarter();
        x.quarter();
        x.undo();
        due("one is left", x.count(4), 1);
        due("NOW", x.count(12), 1);
    }

    // ---- helpers ----

    private static void fill(int people) {
        for (int i = 0; i < people; i++) {
            x.person(0, 40, 20);
        }
    }

    /** PERSON 0 at AGE 64, who WEARS COAT 0, LONG 40 and WIDE 20, by TAILOR 0. */
    private static void oneCoat() {
        x.person(64, 40, 20);
        x.bale(0, 16);
        x.sew(0, 0, 0, 40, 20);
    }

    private static String inText(int number) {
        return number < 0 ? "[0-" + -number + "]" : "" + number;
    }

    public static void main(String[] args) throws Exception {
        runAll(BoundsOfTownTest.class);
    }
}
