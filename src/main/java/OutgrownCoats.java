import java.util.Arrays;

/**
 * A town in which tailors are paid only when what they have sewn fits no longer.
 * The words of the document in capitals are meant where a comment writes them so;
 * LONG is "length" here and WIDE is "width".
 */
public final class OutgrownCoats {
    public static final int NONE = -1;
    public static final int NOTHING = -1000;

    private static final int BAD_NUMBER = -1;
    private static final int NOT_THERE = -2;
    private static final int CANNOT_BE = -3;
    private static final int NO_ROOM = -5;
    private static final int BAD_TEXT = -6;

    private static final int MAX_PEOPLE = 8;
    private static final int MAX_TAILORS = 4;
    private static final int MAX_COATS = 10;
    private static final int MAX_LAWS = 6;
    private static final int MAX_SIGHTS = 6;
    private static final int MAX_IMAGES = 2;
    private static final int MAX_UNDONE = 16;
    private static final int MAX_TAPE = 400;

    private static final int MAX_AGE = 999;
    private static final int MIN_LENGTH = 20;
    private static final int MAX_LENGTH = 250;
    private static final int MIN_WIDTH = 5;
    private static final int MAX_WIDTH = 200;
    private static final int MAX_COAT_LENGTH = 300;
    private static final int MAX_COAT_WIDTH = 250;
    private static final int MAX_FED = 3;
    private static final int MAX_CLOTH = 999;
    private static final int MAX_PAY = 999;
    private static final int MAX_NOW = 999;
    private static final int MAX_FEASTS = 10;
    private static final int MAX_MOOD = 9;
    private static final int GROWN_UP = 64;

    private static final int SEWN = 0;
    private static final int LET_OUT = 1;
    private static final int PASSED = 2;
    private static final int HANDED = 3;

    private static final int GROWS = 0;
    private static final int WIDENS = 1;
    private static final int CLOTH = 2;
    private static final int PAYS = 3;
    private static final int BARS = 4;

    private static final int FEED = 0;
    private static final int HAND = 1;
    private static final int HEM = 2;
    private static final int BUTTON = 3;
    private static final int QUARTER = 4;

    private static final int MAX_CLAUSES = 12;
    private static final int MAX_PARTS = 50;
    private static final int MAX_BRACKETS = 8;
    private static final int MAX_TIMES = 20;
    private static final int MAX_NUMBER = 1000;
    private static final long MAX_VALUE = 1000000000L;

    private static final String LAW_VERBS = "grows widens cloth pays bars";
    private static final String ORDER_VERBS = "feed hand hem button quarter";
    private static final String LAW_WORDS = "person age fed long wide tailor quarter mood";
    private static final String ORDER_WORDS = "now done paid long wide";
    private static final int LAW_WORD_COUNT = 8;
    private static final int LENGTH_WORD = 3;
    private static final int WIDTH_WORD = LENGTH_WORD + MAX_PEOPLE;
    private static final int ORDER_WORD_COUNT = WIDTH_WORD + MAX_PEOPLE;

    // A compiled TEXT is a row of numbers, each an operation with its argument above it.
    private static final int OP_BITS = 4;
    private static final int OP_MASK = 15;
    private static final int OP_NUMBER = 0;
    private static final int OP_WORD = 1;
    private static final int OP_AND = 2;
    private static final int OP_OR = 3;
    private static final int OP_NOT = 4;
    private static final int OP_ADD = 5;
    private static final int OP_SUBTRACT = 6;
    private static final int OP_MULTIPLY = 7;
    private static final int OP_DIVIDE = 8;
    private static final int OP_REMAINDER = 9;
    private static final int OP_LESS = 10;
    private static final int OP_MORE = 11;
    private static final int OP_SAME = 12;
    // Nine levels of brackets leave at most three values each on the stack.
    private static final int STACK_SIZE = 40;

    private static final int MAX_QUARTERS = 80;
    private static final int MAX_CHANCE_QUARTERS = 12;
    private static final int MAX_CUTTING_QUARTERS = 40;
    private static final int MAX_DRESS_QUARTERS = 24;
    private static final int MAX_GAME_QUARTERS = 8;
    private static final int MAX_FED_QUARTERS = 40;
    private static final int MAX_SIGHT_QUARTERS = 40;
    private static final int MAX_FEAST_QUARTERS = 20;
    private static final int MAX_SEED = 1000000;
    private static final int CHOICES = 16;
    private static final int NO_COAT = 100;
    private static final int CLOTH_ROW = MAX_CLOTH + 1;

    private final State state = new State();
    private final Rules rules = new Rules(state);
    private final Works works = new Works(state, rules);
    private final Planner planner = new Planner(state, rules);
    private final Cutter cutter = new Cutter(state, rules, planner);
    private final Reader reader = new Reader();
    private final History past = new History();
    // ORDERS may fail, so what they do is kept apart until all of it was run.
    private final History trial = new History();
    private final Town townBefore = new Town();
    private final State[] images = new State[MAX_IMAGES];
    private final boolean[] imageKept = new boolean[MAX_IMAGES];
    private final int[] tape = new int[MAX_TAPE];
    private int tapeLength;
    private int latestMoths;
    private int latestFault = NONE;
    private int latestStop = NONE;
    private int latestRefusal;
    private final int[] refusals = new int[1 - BAD_TEXT];

    public OutgrownCoats() {
        for (int k = 0; k < MAX_IMAGES; k++) {
            images[k] = new State();
        }
    }

    public int person(int age, int size, int wide) {
        if (!canBePerson(age, size, wide)) {
            return refuse(BAD_NUMBER);
        }
        if (state.town.peopleCount >= MAX_PEOPLE) {
            return refuse(NO_ROOM);
        }
        past.clear();
        return accept(state.town.addPerson(age, size, wide));
    }

    public int of(int person, int what) {
        Town town = state.town;
        if (!town.hasPerson(person)) {
            return NOTHING;
        }
        Person one = town.people[person];
        switch (what) {
            case 0: return one.age;
            case 1: return one.length;
            case 2: return one.width;
            case 3: return one.fed;
            case 4: return rules.growthOf(one, person, town.now);
            case 5: return rules.wideningOf(one, person, town.now);
            case 6: return town.coatsWornBy(person);
            default: return NOTHING;
        }
    }

    public int nourish(int person, int value) {
        return judge(works.feedOne(person, value));
    }

    public int bale(int tailor, int value) {
        if (!isTailor(tailor) || !isWithin(value, 0, MAX_CLOTH)) {
            return refuse(BAD_NUMBER);
        }
        int before = state.town.cloth[tailor];
        state.town.cloth[tailor] = value;
        past.clear();
        return accept(before);
    }

    public int tailor(int tailor, int what) {
        if (!isTailor(tailor)) {
            return NONE;
        }
        switch (what) {
            case 0: return state.town.cloth[tailor];
            case 1: return state.town.purse[tailor];
            case 2: return state.town.wouldGet(tailor, rules);
            default: return NONE;
        }
    }

    public int terms(int what, int value) {
        if (!canBeTerm(what, value)) {
            return refuse(BAD_NUMBER);
        }
        int before = termOf(what);
        if (what == 0) {
            state.town.now = value;
        } else if (what == 1) {
            state.feasts = value;
        } else {
            state.mood = value;
        }
        past.clear();
        return accept(before);
    }

    public int feed(int a, int b, int c, int d, int e) {
        if (tapeLength > MAX_TAPE - 20) {
            return NONE;
        }
        putFour(a);
        putFour(b);
        putFour(c);
        putFour(d);
        putFour(e);
        return tapeLength;
    }

    public int end(int n) {
        if (!isWithin(n, 0, tapeLength)) {
            return NONE;
        }
        tapeLength = n;
        return n;
    }

    public int row() {
        if (tapeLength == 0) {
            return refuse(BAD_TEXT);
        }
        int came = 0;
        int moths = 0;
        for (int at = 0; at < tapeLength; at += 3) {
            if (addFromTape(at)) {
                came++;
            } else {
                moths++;
            }
        }
        latestMoths = moths;
        tapeLength = 0;
        past.clear();
        return accept(came);
    }

    public int moths() {
        return latestMoths;
    }

    public int law() {
        int length = tapeLength;
        tapeLength = 0;
        if (state.lawCount >= MAX_LAWS) {
            return refuse(NO_ROOM);
        }
        boolean wasRead = reader.readText(tape, length, false);
        latestFault = reader.faultPlace;
        if (!wasRead) {
            return refuse(BAD_TEXT);
        }
        return accept(state.addLaw(reader.draft.copied()));
    }

    public int orders() {
        boolean wasRead = reader.readText(tape, tapeLength, true);
        tapeLength = 0;
        latestFault = reader.faultPlace;
        latestStop = NONE;
        if (!wasRead) {
            return refuse(BAD_TEXT);
        }
        townBefore.copyFrom(state.town);
        trial.clear();
        latestStop = works.runOrders(reader.draft, trial);
        if (latestStop != NONE) {
            state.town.copyFrom(townBefore);
            return refuse(CANNOT_BE);
        }
        past.append(trial);
        return accept(works.ordersRun);
    }

    public int fault() {
        return latestFault;
    }

    public int stopped() {
        return latestStop;
    }

    public int force(int law) {
        if (!isWithin(law, NONE, state.lawCount - 1)) {
            return refuse(NOT_THERE);
        }
        int before = state.lawInForce;
        state.lawInForce = law;
        return accept(before);
    }

    public int asks(int person, int tailor, int size, int wide, int what) {
        Town town = state.town;
        if (!town.hasPerson(person) || !isTailor(tailor) || !canBeCoat(size, wide)) {
            return NONE;
        }
        Person one = town.people[person];
        rules.lookAtCoat(tailor, size, wide);
        switch (what) {
            case 0: return rules.clothFor(one, person, town.now);
            case 1: return rules.payBy(one, person, town.now);
            case 2: return rules.isBarred(one, person, town.now) ? 1 : 0;
            case 3: return one.fitsInto(size, wide) ? 1 : 0;
            default: return NONE;
        }
    }

    public int sew(int first, int second, int person, int size, int wide) {
        if (!isTailor(first) || !isTailor(second) || !canBeCoat(size, wide)) {
            return refuse(BAD_NUMBER);
        }
        Town town = state.town;
        if (!town.hasPerson(person)) {
            return refuse(NOT_THERE);
        }
        int takes = works.clothToSew(first, person, size, wide);
        if (takes == NONE) {
            return refuse(CANNOT_BE);
        }
        if (town.coatCount >= MAX_COATS) {
            return refuse(NO_ROOM);
        }
        past.push(SEWN, town);
        town.cloth[first] -= takes;
        int number = town.coatCount;
        town.coats[number].sewn(first, second, person, size, wide);
        town.coatCount++;
        return accept(number);
    }

    public int coat(int coat, int what) {
        Town town = state.town;
        if (!town.hasCoat(coat)) {
            return NONE;
        }
        Coat it = town.coats[coat];
        switch (what) {
            case 0: return it.length;
            case 1: return it.width;
            case 2: return it.first;
            case 3: return it.second;
            case 4: return it.wearer;
            case 5: return it.hems;
            case 6: return it.buttons;
            case 7: return it.timesPaid;
            case 8: return town.payOf(it, rules);
            default: return NONE;
        }
    }

    public int let(int coat, int what) {
        return judge(works.letOut(coat, what, past));
    }

    public int quarter() {
        return judge(works.passQuarter(past));
    }

    public int hand(int coat, int person) {
        return judge(works.handOver(coat, person, past));
    }

    public int undo() {
        if (past.kept == 0) {
            return refuse(CANNOT_BE);
        }
        return accept(past.pop(state.town));
    }

    public int will(int person, int n, int what) {
        if (!state.town.hasPerson(person) || !isWithin(n, 0, MAX_QUARTERS)) {
            return NONE;
        }
        if (!isWithin(what, 0, 2)) {
            return NONE;
        }
        planner.walk(person, n);
        return what == 0 ? planner.ages[n] : what == 1 ? planner.lengths[n] : planner.widths[n];
    }

    public int due(int coat) {
        Town town = state.town;
        if (!town.hasCoat(coat) || town.coats[coat].wearer == NONE) {
            return NONE;
        }
        Coat it = town.coats[coat];
        planner.walk(it.wearer, MAX_QUARTERS);
        return planner.firstTooSmall(it.length, it.width, MAX_QUARTERS);
    }

    public int falls(int tailor, int n) {
        if (!isTailor(tailor) || !isWithin(n, 0, MAX_QUARTERS)) {
            return NONE;
        }
        return planner.willGet(tailor, n);
    }

    public long odds(int person, int wide, int n) {
        if (!state.town.hasPerson(person) || !isWithin(n, 0, MAX_CHANCE_QUARTERS)) {
            return NONE;
        }
        return planner.chanceOf(person, wide, n);
    }

    public int cutting(int tailor, int n, int what) {
        if (!isTailor(tailor) || !isWithin(n, 1, MAX_CUTTING_QUARTERS)) {
            return NONE;
        }
        if (!isWithin(what, 0, 1 + state.town.peopleCount)) {
            return NONE;
        }
        cutter.planCutting(tailor, n);
        if (what == 0) {
            return cutter.bestPay;
        }
        return what == 1 ? cutter.chosenCloth : cutter.chosen[what - 2];
    }

    public int dress(int person, int n, int i) {
        if (!state.town.hasPerson(person) || !isWithin(n, 0, MAX_DRESS_QUARTERS)) {
            return NONE;
        }
        if (!isWithin(i, NONE, n)) {
            return NONE;
        }
        cutter.planDressing(person, n);
        if (i == NONE) {
            return cutter.least[0];
        }
        return cutter.isCutAt(i) ? 1 : 0;
    }

    public int game(int coat, int n, int what) {
        Town town = state.town;
        if (!town.hasCoat(coat) || !isWithin(n, 1, MAX_GAME_QUARTERS) || !isWithin(what, 0, 1)) {
            return NONE;
        }
        if (town.coats[coat].wearer == NONE) {
            return NONE;
        }
        int dueIn = planner.playOut(town.coats[coat], n);
        return what == 0 ? dueIn : planner.firstFood + 1;
    }

    public int fed(int person, int n, int wide) {
        if (!state.town.hasPerson(person) || !isWithin(n, 0, MAX_FED_QUARTERS)) {
            return NONE;
        }
        return planner.foodsThatMake(person, n, wide);
    }

    public int sight(int k, int person, int wide) {
        if (!isWithin(k, 1, MAX_SIGHT_QUARTERS) || !isWithin(wide, MIN_WIDTH, MAX_WIDTH)) {
            return refuse(BAD_NUMBER);
        }
        if (!state.town.hasPerson(person)) {
            return refuse(NOT_THERE);
        }
        if (state.sightCount >= MAX_SIGHTS) {
            return refuse(NO_ROOM);
        }
        return accept(state.addSight(k, person, wide));
    }

    public int forget() {
        int before = state.sightCount;
        state.sightCount = 0;
        return before;
    }

    public int hidden(int i) {
        if (i < NONE) {
            return NONE;
        }
        return planner.hiddenFeast(i);
    }

    public int years(int seed, int n) {
        if (!isWithin(seed, 0, MAX_SEED) || !isWithin(n, 1, MAX_QUARTERS)) {
            return refuse(BAD_NUMBER);
        }
        return accept(planner.drawYears(seed, n));
    }

    public int drawn(int k, int what) {
        if (!planner.hasYears) {
            return NONE;
        }
        if (what == 0 && planner.paper.hasPerson(k)) {
            return planner.paper.people[k].width;
        }
        if (what == 1 && isTailor(k)) {
            return planner.paper.purse[k];
        }
        return NONE;
    }

    public int image(int k) {
        if (!isWithin(k, 0, MAX_IMAGES - 1)) {
            return refuse(BAD_NUMBER);
        }
        images[k].copyFrom(state);
        imageKept[k] = true;
        return accept(0);
    }

    public int back(int k) {
        if (!isWithin(k, 0, MAX_IMAGES - 1)) {
            return refuse(BAD_NUMBER);
        }
        if (!imageKept[k]) {
            return refuse(NOT_THERE);
        }
        state.copyFrom(images[k]);
        past.clear();
        return accept(0);
    }

    public int count(int what) {
        switch (what) {
            case 0: return state.town.peopleCount;
            case 1: return state.town.coatCount;
            case 2: return state.sightCount;
            case 3: return state.lawCount;
            case 4: return past.kept;
            case 5: return tapeLength;
            case 6: return refusals[-BAD_NUMBER];
            case 7: return refusals[-NOT_THERE];
            case 8: return refusals[-CANNOT_BE];
            case 9: return refusals[-NO_ROOM];
            case 10: return refusals[-BAD_TEXT];
            case 11: return state.lawInForce;
            case 12: return termOf(0);
            case 13: return termOf(1);
            case 14: return termOf(2);
            default: return NONE;
        }
    }

    public int status() {
        return latestRefusal;
    }

    private int accept(int answer) {
        latestRefusal = 0;
        return answer;
    }

    private int refuse(int reason) {
        latestRefusal = reason;
        if (isWithin(-reason, 0, refusals.length - 1)) {
            refusals[-reason]++;
        }
        return reason;
    }

    // Only for calls whose answer is never below 0, unless they are REFUSED.
    private int judge(int answer) {
        return answer < 0 ? refuse(answer) : accept(answer);
    }

    private int termOf(int what) {
        return what == 0 ? state.town.now : what == 1 ? state.feasts : state.mood;
    }

    private void putFour(int number) {
        for (int shift = 24; shift >= 0; shift -= 8) {
            if (tapeLength < MAX_TAPE) {
                tape[tapeLength] = (number >>> shift) & 255;
                tapeLength++;
            }
        }
    }

    private boolean addFromTape(int at) {
        if (at + 3 > tapeLength || state.town.peopleCount >= MAX_PEOPLE) {
            return false;
        }
        if (!canBePerson(tape[at], tape[at + 1], tape[at + 2])) {
            return false;
        }
        state.town.addPerson(tape[at], tape[at + 1], tape[at + 2]);
        return true;
    }

    private static boolean isWithin(int number, int low, int high) {
        return number >= low && number <= high;
    }

    private static int nearest(int number, int low, int high) {
        return number < low ? low : number > high ? high : number;
    }

    private static boolean isTailor(int number) {
        return isWithin(number, 0, MAX_TAILORS - 1);
    }

    private static boolean canBePerson(int age, int length, int width) {
        return isWithin(age, 0, MAX_AGE) && isWithin(length, MIN_LENGTH, MAX_LENGTH)
                && isWithin(width, MIN_WIDTH, MAX_WIDTH);
    }

    private static boolean canBeCoat(int length, int width) {
        return isWithin(length, MIN_LENGTH, MAX_COAT_LENGTH)
                && isWithin(width, MIN_WIDTH, MAX_COAT_WIDTH);
    }

    private static boolean canBeTerm(int what, int value) {
        switch (what) {
            case 0: return isWithin(value, 0, MAX_NOW);
            case 1: return isWithin(value, 0, MAX_FEASTS);
            case 2: return isWithin(value, 0, MAX_MOOD);
            default: return false;
        }
    }

    private static final class Person {
        int age;
        int length;
        int width;
        int fed;

        void set(int newAge, int newLength, int newWidth, int newFed) {
            age = newAge;
            length = newLength;
            width = newWidth;
            fed = newFed;
        }

        void copyFrom(Person other) {
            set(other.age, other.length, other.width, other.fed);
        }

        boolean fitsInto(int coatLength, int coatWidth) {
            return length <= coatLength && width <= coatWidth;
        }

        void feast() {
            width = Math.min(width + 1, MAX_WIDTH);
        }
    }

    private static final class Coat {
        int length;
        int width;
        int first;
        int second;
        int wearer = NONE;
        int hems;
        int buttons;
        int timesPaid;

        void sewn(int firstTailor, int secondTailor, int person, int newLength, int newWidth) {
            length = newLength;
            width = newWidth;
            first = firstTailor;
            second = secondTailor;
            wearer = person;
            hems = 2;
            buttons = 3;
            timesPaid = 0;
        }

        void copyFrom(Coat other) {
            length = other.length;
            width = other.width;
            first = other.first;
            second = other.second;
            wearer = other.wearer;
            hems = other.hems;
            buttons = other.buttons;
            timesPaid = other.timesPaid;
        }

        int shareOf(int tailor, int pay) {
            int half = (pay + 1) / 2;
            return (tailor == first ? half : 0) + (tailor == second ? pay - half : 0);
        }
    }

    /** What undo() brings back: PEOPLE, COATS, TAILORS, NOW. */
    private static final class Town {
        final Person[] people = new Person[MAX_PEOPLE];
        final Coat[] coats = new Coat[MAX_COATS];
        final int[] cloth = new int[MAX_TAILORS];
        final int[] purse = new int[MAX_TAILORS];
        int peopleCount;
        int coatCount;
        int now;

        Town() {
            for (int i = 0; i < MAX_PEOPLE; i++) {
                people[i] = new Person();
            }
            for (int i = 0; i < MAX_COATS; i++) {
                coats[i] = new Coat();
            }
        }

        void copyFrom(Town other) {
            peopleCount = other.peopleCount;
            coatCount = other.coatCount;
            now = other.now;
            for (int i = 0; i < peopleCount; i++) {
                people[i].copyFrom(other.people[i]);
            }
            for (int i = 0; i < coatCount; i++) {
                coats[i].copyFrom(other.coats[i]);
            }
            System.arraycopy(other.cloth, 0, cloth, 0, MAX_TAILORS);
            System.arraycopy(other.purse, 0, purse, 0, MAX_TAILORS);
        }

        boolean hasPerson(int number) {
            return number >= 0 && number < peopleCount;
        }

        boolean hasCoat(int number) {
            return number >= 0 && number < coatCount;
        }

        int addPerson(int age, int length, int width) {
            int number = peopleCount;
            people[number].set(age, length, width, 0);
            peopleCount++;
            return number;
        }

        int coatsWornBy(int person) {
            int worn = 0;
            for (int i = 0; i < coatCount; i++) {
                if (coats[i].wearer == person) {
                    worn++;
                }
            }
            return worn;
        }

        boolean isOutgrown(Coat coat) {
            return hasPerson(coat.wearer) && !people[coat.wearer].fitsInto(coat.length, coat.width);
        }

        /** NONE if nobody WEARS it. */
        int payOf(Coat coat, Rules rules) {
            if (!hasPerson(coat.wearer)) {
                return NONE;
            }
            rules.lookAtCoat(coat.first, coat.length, coat.width);
            return rules.payBy(people[coat.wearer], coat.wearer, now);
        }

        int wouldGet(int tailor, Rules rules) {
            int got = 0;
            for (int i = 0; i < coatCount; i++) {
                int pay = payOf(coats[i], rules);
                got += pay == NONE ? 0 : coats[i].shareOf(tailor, pay);
            }
            return got;
        }

        void growAll(Rules rules) {
            for (int i = 0; i < peopleCount; i++) {
                rules.growOlder(people[i], i, now);
            }
            now++;
        }

        int settle(Rules rules) {
            int total = 0;
            for (int i = 0; i < coatCount; i++) {
                Coat coat = coats[i];
                if (isOutgrown(coat)) {
                    rules.lookAtCoat(coat.first, coat.length, coat.width);
                    int pay = rules.payBy(people[coat.wearer], coat.wearer, now);
                    takeOff(coat, pay);
                    total += pay;
                }
            }
            return total;
        }

        void takeOff(Coat coat, int pay) {
            int half = (pay + 1) / 2;
            purse[coat.first] += half;
            purse[coat.second] += pay - half;
            coat.wearer = NONE;
            coat.timesPaid++;
        }
    }

    /** What an IMAGE keeps. */
    private static final class State {
        final Town town = new Town();
        final Script[] laws = new Script[MAX_LAWS];
        int lawCount;
        int lawInForce = NONE;
        int feasts = 3;
        int mood;
        final int[] sightEnds = new int[MAX_SIGHTS];
        final int[] sightPeople = new int[MAX_SIGHTS];
        final int[] sightWidths = new int[MAX_SIGHTS];
        int sightCount;

        void copyFrom(State other) {
            town.copyFrom(other.town);
            lawCount = other.lawCount;
            for (int i = 0; i < MAX_LAWS; i++) {
                laws[i] = other.laws[i];
            }
            lawInForce = other.lawInForce;
            feasts = other.feasts;
            mood = other.mood;
            System.arraycopy(other.sightEnds, 0, sightEnds, 0, MAX_SIGHTS);
            System.arraycopy(other.sightPeople, 0, sightPeople, 0, MAX_SIGHTS);
            System.arraycopy(other.sightWidths, 0, sightWidths, 0, MAX_SIGHTS);
            sightCount = other.sightCount;
        }

        int addLaw(Script law) {
            int number = lawCount;
            laws[number] = law;
            lawCount++;
            return number;
        }

        Script forced() {
            return lawInForce >= 0 && lawInForce < lawCount ? laws[lawInForce] : null;
        }

        int addSight(int k, int person, int width) {
            sightEnds[sightCount] = k;
            sightPeople[sightCount] = person;
            sightWidths[sightCount] = width;
            sightCount++;
            return sightCount;
        }
    }

    /** The latest towns that can be gone back to, in a ring. */
    private static final class History {
        final Town[] towns = new Town[MAX_UNDONE];
        final int[] acts = new int[MAX_UNDONE];
        int oldest;
        int kept;

        History() {
            for (int i = 0; i < MAX_UNDONE; i++) {
                towns[i] = new Town();
            }
        }

        void clear() {
            kept = 0;
        }

        void push(int act, Town town) {
            if (kept == MAX_UNDONE) {
                oldest = (oldest + 1) % MAX_UNDONE;
            } else {
                kept++;
            }
            int slot = (oldest + kept - 1) % MAX_UNDONE;
            towns[slot].copyFrom(town);
            acts[slot] = act;
        }

        int pop(Town into) {
            if (kept == 0) {
                return NONE;
            }
            int slot = (oldest + kept - 1) % MAX_UNDONE;
            into.copyFrom(towns[slot]);
            kept--;
            return acts[slot];
        }

        void append(History later) {
            for (int i = 0; i < later.kept; i++) {
                int slot = (later.oldest + i) % MAX_UNDONE;
                push(later.acts[slot], later.towns[slot]);
            }
        }
    }

    /**
     * A compiled TEXT. The code of a CLAUSE stands in one piece: the first SUM up to firstEnds,
     * the second one up to secondEnds, the TEST up to testEnds; what is not there is empty.
     */
    private static final class Script {
        int clauses;
        final int[] verbs;
        final int[] times;
        final int[] starts;
        final int[] firstEnds;
        final int[] secondEnds;
        final int[] testEnds;
        final int[] code;

        Script(int clauseRoom, int codeRoom) {
            verbs = new int[clauseRoom];
            times = new int[clauseRoom];
            starts = new int[clauseRoom];
            firstEnds = new int[clauseRoom];
            secondEnds = new int[clauseRoom];
            testEnds = new int[clauseRoom];
            code = new int[codeRoom];
        }

        Script copied() {
            int used = clauses == 0 ? 0 : testEnds[clauses - 1];
            Script copy = new Script(clauses, used);
            copy.clauses = clauses;
            System.arraycopy(verbs, 0, copy.verbs, 0, clauses);
            System.arraycopy(times, 0, copy.times, 0, clauses);
            System.arraycopy(starts, 0, copy.starts, 0, clauses);
            System.arraycopy(firstEnds, 0, copy.firstEnds, 0, clauses);
            System.arraycopy(secondEnds, 0, copy.secondEnds, 0, clauses);
            System.arraycopy(testEnds, 0, copy.testEnds, 0, clauses);
            System.arraycopy(code, 0, copy.code, 0, used);
            return copy;
        }

        boolean hasTest(int clause) {
            return testEnds[clause] > secondEnds[clause];
        }

        boolean hasFirst(int clause) {
            return firstEnds[clause] > starts[clause];
        }

        boolean hasSecond(int clause) {
            return secondEnds[clause] > firstEnds[clause];
        }
    }

    /** Reads a TEXT of either language into its draft. */
    private static final class Reader {
        private static final int BLANK = 32;
        // Tokens of one other byte have that byte for their kind.
        private static final int LETTERS = 256;
        private static final int DIGITS = 257;
        private static final int THE_END = 258;

        final Script draft = new Script(MAX_CLAUSES, MAX_TAPE);
        final int[] kinds = new int[MAX_TAPE + 1];
        final int[] starts = new int[MAX_TAPE + 1];
        final int[] stops = new int[MAX_TAPE + 1];
        // NONE for tokens that are no number; what is too large for any use is MAX_NUMBER and 1.
        final int[] numbers = new int[MAX_TAPE + 1];
        int[] text = new int[0];
        boolean isOrders;
        int tokens;
        int at;
        int parts;
        int codeSize;
        int faultPlace = NONE;

        boolean readText(int[] tape, int length, boolean asOrders) {
            text = tape;
            isOrders = asOrders;
            split(length);
            at = 0;
            parts = 0;
            codeSize = 0;
            draft.clauses = 0;
            faultPlace = NONE;
            for (int clause = 0; clause < MAX_CLAUSES; clause++) {
                if (!readClause(clause)) {
                    return false;
                }
                draft.clauses++;
                if (kinds[at] == THE_END) {
                    return true;
                }
                if (!goOnBehind(';')) {
                    return false;
                }
            }
            return fail();
        }

        private void split(int length) {
            tokens = 0;
            int place = 0;
            for (int i = 0; i < MAX_TAPE && place < length; i++) {
                if (text[place] == BLANK) {
                    place++;
                } else {
                    int kind = kindOf(text[place]);
                    int stop = place + 1;
                    while (kind >= LETTERS && stop < length && kindOf(text[stop]) == kind) {
                        stop++;
                    }
                    addToken(kind, place, stop);
                    place = stop;
                }
            }
            addToken(THE_END, length, length);
        }

        private static int kindOf(int sign) {
            if (sign >= 'a' && sign <= 'z') {
                return LETTERS;
            }
            return sign >= '0' && sign <= '9' ? DIGITS : sign;
        }

        private void addToken(int kind, int start, int stop) {
            if (tokens <= MAX_TAPE) {
                kinds[tokens] = kind;
                starts[tokens] = start;
                stops[tokens] = stop;
                numbers[tokens] = kind == DIGITS ? numberBetween(start, stop) : NONE;
                tokens++;
            }
        }

        private int numberBetween(int start, int stop) {
            int number = 0;
            for (int i = start; i < stop; i++) {
                number = Math.min(number * 10 + text[i] - '0', MAX_NUMBER + 1);
            }
            return number;
        }

        private boolean fail() {
            faultPlace = starts[at];
            return false;
        }

        private boolean readClause(int clause) {
            int verb = listed(isOrders ? ORDER_VERBS : LAW_VERBS);
            if (verb == NONE) {
                return fail();
            }
            at++;
            draft.verbs[clause] = verb;
            draft.times[clause] = 1;
            draft.starts[clause] = codeSize;
            if (verb != (isOrders ? QUARTER : BARS) && !readSum(0)) {
                return false;
            }
            draft.firstEnds[clause] = codeSize;
            if (isOrders && verb <= HAND && !readSecond(verb)) {
                return false;
            }
            draft.secondEnds[clause] = codeSize;
            if (isOrders && isWord("times") && !readTimes(clause)) {
                return false;
            }
            if (isWord("if")) {
                at++;
                if (!readTest(0)) {
                    return false;
                }
            }
            draft.testEnds[clause] = codeSize;
            return true;
        }

        private boolean readSecond(int verb) {
            if (!isWord(verb == FEED ? "by" : "to")) {
                return fail();
            }
            at++;
            return readSum(0);
        }

        private boolean readTimes(int clause) {
            at++;
            int times = numbers[at];
            if (times < 1 || times > MAX_TIMES) {
                return fail();
            }
            draft.times[clause] = times;
            at++;
            return true;
        }

        private boolean readTest(int depth) {
            if (!readBoth(depth)) {
                return false;
            }
            for (int i = 0; i < MAX_TAPE && isWord("or"); i++) {
                at++;
                int jump = emit(OP_OR, 0);
                if (!readBoth(depth)) {
                    return false;
                }
                landHere(jump, OP_OR);
            }
            return true;
        }

        private boolean readBoth(int depth) {
            if (!readPlain(depth)) {
                return false;
            }
            for (int i = 0; i < MAX_TAPE && isWord("and"); i++) {
                at++;
                int jump = emit(OP_AND, 0);
                if (!readPlain(depth)) {
                    return false;
                }
                landHere(jump, OP_AND);
            }
            return true;
        }

        private boolean readPlain(int depth) {
            boolean isTurned = false;
            for (int i = 0; i < MAX_TAPE && isWord("not"); i++) {
                at++;
                isTurned = !isTurned;
            }
            if (kinds[at] == '(') {
                if (!readInner(depth)) {
                    return false;
                }
            } else {
                if (!readSum(depth)) {
                    return false;
                }
                int sign = kinds[at];
                if (sign != '<' && sign != '>' && sign != '=') {
                    return fail();
                }
                at++;
                if (!readSum(depth)) {
                    return false;
                }
                emit(sign == '<' ? OP_LESS : sign == '>' ? OP_MORE : OP_SAME, 0);
            }
            if (isTurned) {
                emit(OP_NOT, 0);
            }
            return true;
        }

        private boolean readInner(int depth) {
            if (depth >= MAX_BRACKETS) {
                return fail();
            }
            at++;
            return readTest(depth + 1) && goOnBehind(')');
        }

        private boolean readSum(int depth) {
            if (!readTerm(depth)) {
                return false;
            }
            for (int i = 0; i < MAX_TAPE && (kinds[at] == '+' || kinds[at] == '-'); i++) {
                int sign = kinds[at];
                at++;
                if (!readTerm(depth)) {
                    return false;
                }
                emit(sign == '+' ? OP_ADD : OP_SUBTRACT, 0);
            }
            return true;
        }

        private boolean readTerm(int depth) {
            if (!readPart(depth)) {
                return false;
            }
            for (int i = 0; i < MAX_TAPE && isProductSign(kinds[at]); i++) {
                int sign = kinds[at];
                at++;
                if (!readPart(depth)) {
                    return false;
                }
                emit(sign == '*' ? OP_MULTIPLY : sign == '/' ? OP_DIVIDE : OP_REMAINDER, 0);
            }
            return true;
        }

        private static boolean isProductSign(int sign) {
            return sign == '*' || sign == '/' || sign == '%';
        }

        private boolean readPart(int depth) {
            if (kinds[at] == '[') {
                if (depth >= MAX_BRACKETS) {
                    return fail();
                }
                at++;
                return readSum(depth + 1) && goOnBehind(']');
            }
            int number = numbers[at];
            int word = listed(isOrders ? ORDER_WORDS : LAW_WORDS);
            boolean canBe = word != NONE || number >= 0 && number <= MAX_NUMBER;
            if (!canBe || parts >= MAX_PARTS) {
                return fail();
            }
            parts++;
            at++;
            if (word == NONE) {
                emit(OP_NUMBER, number);
                return true;
            }
            return isOrders && word >= LENGTH_WORD ? readMeasured(word) : emit(OP_WORD, word) >= 0;
        }

        private boolean readMeasured(int word) {
            int person = numbers[at];
            if (person < 0 || person >= MAX_PEOPLE) {
                return fail();
            }
            at++;
            emit(OP_WORD, (word == LENGTH_WORD ? LENGTH_WORD : WIDTH_WORD) + person);
            return true;
        }

        private boolean goOnBehind(int sign) {
            if (kinds[at] != sign) {
                return fail();
            }
            at++;
            return true;
        }

        private int emit(int operation, int argument) {
            if (codeSize >= draft.code.length) {
                return NONE;
            }
            draft.code[codeSize] = operation | argument << OP_BITS;
            codeSize++;
            return codeSize - 1;
        }

        private void landHere(int jump, int operation) {
            if (jump >= 0 && jump < draft.code.length) {
                draft.code[jump] = operation | codeSize << OP_BITS;
            }
        }

        private boolean isWord(String word) {
            return listed(word) == 0;
        }

        /** Which word of a list stands here, NONE if none of them. */
        private int listed(String list) {
            if (kinds[at] != LETTERS) {
                return NONE;
            }
            int letters = stops[at] - starts[at];
            int number = 0;
            int alike = 0;
            for (int i = 0; i <= list.length(); i++) {
                if (i == list.length() || list.charAt(i) == ' ') {
                    if (alike == letters) {
                        return number;
                    }
                    number++;
                    alike = 0;
                } else if (alike != NONE) {
                    boolean goesOn = alike < letters && text[starts[at] + alike] == list.charAt(i);
                    alike = goesOn ? alike + 1 : NONE;
                }
            }
            return NONE;
        }
    }

    /** What the LAW in FORCE tells of a PERSON, or of a COAT (looked at first) and a PERSON. */
    private static final class Rules {
        final State state;
        final int[] words = new int[LAW_WORD_COUNT];
        final long[] stack = new long[STACK_SIZE];
        long value;
        int coatTailor;
        int coatLength;
        int coatWidth;

        Rules(State theState) {
            state = theState;
        }

        int growthOf(Person one, int number, int now) {
            setWordsOf(one, number, now);
            return told(GROWS, one.age < GROWN_UP ? 1 : 0, 0, 9);
        }

        int wideningOf(Person one, int number, int now) {
            setWordsOf(one, number, now);
            return told(WIDENS, one.fed, -9, 9);
        }

        void growOlder(Person one, int number, int now) {
            setWordsOf(one, number, now);
            int longer = told(GROWS, one.age < GROWN_UP ? 1 : 0, 0, 9);
            int wider = told(WIDENS, one.fed, -9, 9);
            one.length = nearest(one.length + longer, MIN_LENGTH, MAX_LENGTH);
            one.width = nearest(one.width + wider, MIN_WIDTH, MAX_WIDTH);
            one.age = Math.min(one.age + 1, MAX_AGE);
        }

        void lookAtCoat(int tailor, int length, int width) {
            coatTailor = tailor;
            coatLength = length;
            coatWidth = width;
        }

        int clothFor(Person one, int number, int now) {
            setWordsOfCoat(one, number, now);
            return told(CLOTH, coatLength * coatWidth / 50, 0, MAX_CLOTH);
        }

        int payBy(Person one, int number, int now) {
            setWordsOfCoat(one, number, now);
            return told(PAYS, 20, 0, MAX_PAY);
        }

        boolean isBarred(Person one, int number, int now) {
            setWordsOfCoat(one, number, now);
            return told(BARS, 0, 1, 1) == 1;
        }

        // In the order of LAW_WORDS.
        private void setWordsOf(Person one, int number, int now) {
            words[0] = number;
            words[1] = one.age;
            words[2] = one.fed;
            words[3] = one.length;
            words[4] = one.width;
            words[5] = NONE;
            words[6] = now % 4;
            words[7] = state.mood;
        }

        private void setWordsOfCoat(Person one, int number, int now) {
            setWordsOf(one, number, now);
            words[3] = coatLength;
            words[4] = coatWidth;
            words[5] = coatTailor;
        }

        /** What the last CLAUSE with this verb that HOLDS tells, within low and high. */
        private int told(int verb, int without, int low, int high) {
            Script law = state.forced();
            if (law == null) {
                return without;
            }
            for (int i = law.clauses - 1; i >= 0; i--) {
                if (law.verbs[i] != verb) {
                    continue;
                }
                boolean isSo = !law.hasTest(i)
                        || evaluate(law.code, law.secondEnds[i], law.testEnds[i], words) && value != 0;
                if (isSo && law.hasFirst(i)) {
                    isSo = evaluate(law.code, law.starts[i], law.firstEnds[i], words);
                }
                if (isSo) {
                    return (int) Math.max(low, Math.min(high, value));
                }
            }
            return without;
        }

        /** False if it is BROKEN, else what it tells is the value. */
        boolean evaluate(int[] code, int from, int to, int[] known) {
            int top = 0;
            int at = from;
            for (int i = 0; i < MAX_TAPE && at < to && at < code.length; i++) {
                int operation = code[at] & OP_MASK;
                int argument = code[at] >> OP_BITS;
                at++;
                if (operation <= OP_WORD) {
                    if (top >= STACK_SIZE || operation == OP_WORD && argument >= known.length) {
                        return false;
                    }
                    stack[top] = operation == OP_WORD ? known[argument] : argument;
                    top++;
                } else if (top < 1) {
                    return false;
                } else if (operation <= OP_OR) {
                    if (stack[top - 1] != 0 == (operation == OP_OR)) {
                        at = argument;
                    } else {
                        top--;
                    }
                } else if (operation == OP_NOT) {
                    stack[top - 1] = 1 - stack[top - 1];
                } else {
                    if (top < 2) {
                        return false;
                    }
                    top--;
                    long left = stack[top - 1];
                    long right = stack[top];
                    long result;
                    switch (operation) {
                        case OP_ADD: result = left + right; break;
                        case OP_SUBTRACT: result = left - right; break;
                        case OP_MULTIPLY: result = left * right; break;
                        case OP_LESS: result = left < right ? 1 : 0; break;
                        case OP_MORE: result = left > right ? 1 : 0; break;
                        case OP_SAME: result = left == right ? 1 : 0; break;
                        default:
                            if (right == 0) {
                                return false;
                            }
                            result = operation == OP_DIVIDE ? left / right : left % right;
                    }
                    if (result > MAX_VALUE || result < -MAX_VALUE) {
                        return false;
                    }
                    stack[top - 1] = result;
                }
            }
            value = top > 0 ? stack[top - 1] : 0;
            return top > 0;
        }
    }

    /** What changes the town: answers are those of the calls, REFUSED or not. */
    private static final class Works {
        final State state;
        final Rules rules;
        final int[] words = new int[ORDER_WORD_COUNT];
        int ordersRun;
        int ordersPaid;
        int firstSum;
        int secondSum;

        Works(State theState, Rules theRules) {
            state = theState;
            rules = theRules;
        }

        int feedOne(int person, int value) {
            if (value < -MAX_FED || value > MAX_FED) {
                return BAD_NUMBER;
            }
            if (!state.town.hasPerson(person)) {
                return NOT_THERE;
            }
            state.town.people[person].fed = value;
            return 0;
        }

        /** The CLOTH of the first TAILOR that it takes, NONE if it can't be sewn by what stands. */
        int clothToSew(int first, int person, int length, int width) {
            Town town = state.town;
            Person one = town.people[person];
            rules.lookAtCoat(first, length, width);
            if (!one.fitsInto(length, width) || rules.isBarred(one, person, town.now)) {
                return NONE;
            }
            int takes = rules.clothFor(one, person, town.now);
            return takes > town.cloth[first] ? NONE : takes;
        }

        int letOut(int coat, int what, History past) {
            if (what < 0 || what > 1) {
                return BAD_NUMBER;
            }
            if (!state.town.hasCoat(coat)) {
                return NOT_THERE;
            }
            Coat it = state.town.coats[coat];
            if ((what == 0 ? it.hems : it.buttons) == 0) {
                return CANNOT_BE;
            }
            past.push(LET_OUT, state.town);
            if (what == 0) {
                it.hems--;
                it.length += 2;
                return it.length;
            }
            it.buttons--;
            it.width++;
            return it.width;
        }

        int passQuarter(History past) {
            if (state.town.now >= MAX_NOW) {
                return CANNOT_BE;
            }
            past.push(PASSED, state.town);
            state.town.growAll(rules);
            return state.town.settle(rules);
        }

        int handOver(int coat, int person, History past) {
            Town town = state.town;
            if (!town.hasCoat(coat) || !town.hasPerson(person)) {
                return NOT_THERE;
            }
            Coat it = town.coats[coat];
            if (it.wearer != NONE) {
                return CANNOT_BE;
            }
            past.push(HANDED, town);
            it.wearer = person;
            if (!town.isOutgrown(it)) {
                return 0;
            }
            int pay = town.payOf(it, rules);
            town.takeOff(it, pay);
            return pay;
        }

        /** The CLAUSE that could not be, NONE if all were run. */
        int runOrders(Script script, History past) {
            ordersRun = 0;
            ordersPaid = 0;
            for (int clause = 0; clause < script.clauses; clause++) {
                for (int i = 0; i < script.times[clause]; i++) {
                    fillWords();
                    if (isSo(script, clause)) {
                        if (!findSums(script, clause) || run(script.verbs[clause], past) < 0) {
                            return clause;
                        }
                        ordersRun++;
                    }
                }
            }
            return NONE;
        }

        private void fillWords() {
            Town town = state.town;
            words[0] = town.now;
            words[1] = ordersRun;
            words[2] = ordersPaid;
            for (int i = 0; i < MAX_PEOPLE; i++) {
                boolean isThere = town.hasPerson(i);
                words[LENGTH_WORD + i] = isThere ? town.people[i].length : NONE;
                words[WIDTH_WORD + i] = isThere ? town.people[i].width : NONE;
            }
        }

        private boolean isSo(Script script, int clause) {
            if (!script.hasTest(clause)) {
                return true;
            }
            int from = script.secondEnds[clause];
            return rules.evaluate(script.code, from, script.testEnds[clause], words) && rules.value != 0;
        }

        private boolean findSums(Script script, int clause) {
            int middle = script.firstEnds[clause];
            if (script.hasFirst(clause)) {
                if (!rules.evaluate(script.code, script.starts[clause], middle, words)) {
                    return false;
                }
                firstSum = (int) rules.value;
            }
            if (script.hasSecond(clause)) {
                if (!rules.evaluate(script.code, middle, script.secondEnds[clause], words)) {
                    return false;
                }
                secondSum = (int) rules.value;
            }
            return true;
        }

        private int run(int verb, History past) {
            switch (verb) {
                case FEED: return feedOne(firstSum, secondSum);
                case HAND: return counted(handOver(firstSum, secondSum, past));
                case HEM: return letOut(firstSum, 0, past);
                case BUTTON: return letOut(firstSum, 1, past);
                default: return counted(passQuarter(past));
            }
        }

        private int counted(int pay) {
            ordersPaid += Math.max(pay, 0);
            return pay;
        }
    }

    /** What will be, on paper. */
    private static final class Planner {
        final State state;
        final Rules rules;
        final Person one = new Person();
        // How one is now and at the ends of the QUARTERS that were walked last.
        final int[] ages = new int[MAX_QUARTERS + 1];
        final int[] lengths = new int[MAX_QUARTERS + 1];
        final int[] widths = new int[MAX_QUARTERS + 1];
        final long[] chances = new long[MAX_WIDTH + 1];
        final long[] nextChances = new long[MAX_WIDTH + 1];
        final int[] feasts = new int[MAX_PEOPLE];
        final boolean[] seenWithout = new boolean[MAX_PEOPLE];
        // The latest YEARS, with what the TAILORS got in them for their PURSES.
        final Town paper = new Town();
        boolean hasYears;
        int firstFood;

        Planner(State theState, Rules theRules) {
            state = theState;
            rules = theRules;
        }

        void walk(int person, int n) {
            one.copyFrom(state.town.people[person]);
            keep(0);
            for (int k = 1; k <= n && k <= MAX_QUARTERS; k++) {
                rules.growOlder(one, person, state.town.now + k - 1);
                keep(k);
            }
        }

        private void keep(int k) {
            ages[k] = one.age;
            lengths[k] = one.length;
            widths[k] = one.width;
        }

        void standAt(int k, int fed) {
            one.set(ages[k], lengths[k], widths[k], fed);
        }

        /** The first end at which such a COAT does not FIT the one that was walked. */
        int firstTooSmall(int length, int width, int n) {
            for (int k = 1; k <= n && k <= MAX_QUARTERS; k++) {
                if (lengths[k] > length || widths[k] > width) {
                    return k;
                }
            }
            return NONE;
        }

        /** What the COAT that was looked at PAYS at the k-th end by the one that was walked. */
        int payAt(int k, int person) {
            standAt(k, state.town.people[person].fed);
            return rules.payBy(one, person, state.town.now + k);
        }

        int willGet(int tailor, int n) {
            int got = 0;
            for (int person = 0; person < state.town.peopleCount; person++) {
                if (state.town.coatsWornBy(person) > 0) {
                    walk(person, n);
                    got += willGetBy(person, tailor, n);
                }
            }
            return got;
        }

        private int willGetBy(int person, int tailor, int n) {
            int got = 0;
            for (int i = 0; i < state.town.coatCount; i++) {
                Coat coat = state.town.coats[i];
                int k = coat.wearer == person ? firstTooSmall(coat.length, coat.width, n) : NONE;
                if (k != NONE) {
                    rules.lookAtCoat(coat.first, coat.length, coat.width);
                    got += coat.shareOf(tailor, payAt(k, person));
                }
            }
            return got;
        }

        long chanceOf(int person, int width, int n) {
            walk(person, n);
            Arrays.fill(chances, 0);
            chances[nearest(widths[0], 0, MAX_WIDTH)] = 1;
            for (int k = 0; k < n; k++) {
                spread(person, k);
            }
            long parts = 0;
            for (int w = Math.max(width, 0); w <= MAX_WIDTH; w++) {
                parts += chances[w];
            }
            for (int k = n; k < MAX_CHANCE_QUARTERS; k++) {
                parts *= 10;
            }
            return parts;
        }

        private void spread(int person, int k) {
            int feastsOfTen = state.feasts;
            int fed = state.town.people[person].fed;
            Arrays.fill(nextChances, 0);
            for (int w = MIN_WIDTH; w <= MAX_WIDTH; w++) {
                if (chances[w] != 0) {
                    one.set(ages[k], lengths[k], w, fed);
                    int wider = rules.wideningOf(one, person, state.town.now + k);
                    int then = nearest(w + wider, MIN_WIDTH, MAX_WIDTH);
                    nextChances[then] += chances[w] * (10 - feastsOfTen);
                    nextChances[Math.min(then + 1, MAX_WIDTH)] += chances[w] * feastsOfTen;
                }
            }
            System.arraycopy(nextChances, 0, chances, 0, MAX_WIDTH + 1);
        }

        int playOut(Coat coat, int n) {
            one.copyFrom(state.town.people[coat.wearer]);
            keep(0);
            firstFood = 0;
            return play(coat, 1, n, 0, n + 1);
        }

        /**
         * The QUARTER in which it is DUE, if k is the next one and all else is chosen best;
         * what can't be between low and high any more is not looked for.
         */
        private int play(Coat coat, int k, int n, int low, int high) {
            if (k > n || k > MAX_GAME_QUARTERS) {
                return n + 1;
            }
            boolean isMother = k % 2 == 1;
            int best = isMother ? 0 : n + 2;
            for (int food = -1; food <= 1 && low < high; food++) {
                standAt(k - 1, food);
                rules.growOlder(one, coat.wearer, state.town.now + k - 1);
                keep(k);
                boolean fits = one.fitsInto(coat.length, coat.width);
                int dueIn = fits ? play(coat, k + 1, n, low, high) : k;
                if (isMother ? dueIn > best : dueIn < best) {
                    best = dueIn;
                    firstFood = k == 1 ? food : firstFood;
                }
                if (isMother) {
                    low = Math.max(low, best);
                } else {
                    high = Math.min(high, best);
                }
            }
            return best;
        }

        int foodsThatMake(int person, int n, int width) {
            int bits = 0;
            for (int food = -MAX_FED; food <= MAX_FED; food++) {
                one.copyFrom(state.town.people[person]);
                one.fed = food;
                for (int k = 0; k < n; k++) {
                    rules.growOlder(one, person, state.town.now + k);
                }
                if (one.width == width) {
                    bits |= 1 << (food + MAX_FED);
                }
            }
            return bits;
        }

        /** The i-th feast that may have been, how many for NONE. */
        int hiddenFeast(int i) {
            findFeasts();
            int found = 0;
            for (int q = 1; q <= MAX_FEAST_QUARTERS; q++) {
                for (int person = 0; person < state.town.peopleCount; person++) {
                    if ((feasts[person] >> (q - 1) & 1) == 1) {
                        if (found == i) {
                            return (q - 1) * 8 + person;
                        }
                        found++;
                    }
                }
            }
            return i == NONE ? found : NONE;
        }

        // One feast can't mend what is not so of two PEOPLE, nor one's with another's feast.
        private void findFeasts() {
            int unseen = 0;
            for (int person = 0; person < state.town.peopleCount; person++) {
                int last = lastSight(person);
                walk(person, last);
                seenWithout[person] = isSeenWalking(person, last);
                unseen += seenWithout[person] ? 0 : 1;
            }
            for (int person = 0; person < state.town.peopleCount; person++) {
                boolean areOthersSeen = unseen == 0 || unseen == 1 && !seenWithout[person];
                feasts[person] = areOthersSeen ? feastsOf(person) : 0;
            }
        }

        /** The QUARTERS, as bits, in which a feast lets all SIGHTS of this PERSON be so. */
        private int feastsOf(int person) {
            int last = lastSight(person);
            walk(person, last);
            int bits = 0;
            for (int q = 1; q <= MAX_FEAST_QUARTERS; q++) {
                boolean isSeen = q > last ? seenWithout[person] : isSeenWithFeast(person, q, last);
                bits |= isSeen ? 1 << (q - 1) : 0;
            }
            return bits;
        }

        private int lastSight(int person) {
            int last = 0;
            for (int i = 0; i < state.sightCount; i++) {
                if (state.sightPeople[i] == person) {
                    last = Math.max(last, state.sightEnds[i]);
                }
            }
            return last;
        }

        private boolean isSeenWalking(int person, int n) {
            for (int k = 1; k <= n; k++) {
                if (!isSeen(person, k, widths[k])) {
                    return false;
                }
            }
            return true;
        }

        private boolean isSeenWithFeast(int person, int q, int last) {
            if (!isSeenWalking(person, q - 1)) {
                return false;
            }
            standAt(q, state.town.people[person].fed);
            one.feast();
            for (int k = q; k <= last; k++) {
                if (k > q) {
                    rules.growOlder(one, person, state.town.now + k - 1);
                }
                if (!isSeen(person, k, one.width)) {
                    return false;
                }
            }
            return true;
        }

        private boolean isSeen(int person, int k, int width) {
            for (int i = 0; i < state.sightCount; i++) {
                if (state.sightPeople[i] == person && state.sightEnds[i] == k
                        && state.sightWidths[i] != width) {
                    return false;
                }
            }
            return true;
        }

        int drawYears(int seed, int n) {
            paper.copyFrom(state.town);
            Arrays.fill(paper.purse, 0);
            hasYears = true;
            long s = seed;
            int paid = 0;
            for (int k = 0; k < n; k++) {
                paper.growAll(rules);
                for (int i = 0; i < paper.peopleCount; i++) {
                    s = (s * 1103 + 12345) % 1000003;
                    if (s % 10 < state.feasts) {
                        paper.people[i].feast();
                    }
                }
                paid += paper.settle(rules);
            }
            return paid;
        }
    }

    /** How to cut a bale, and how to keep one dressed. */
    private static final class Cutter {
        final State state;
        final Rules rules;
        final Planner planner;
        final int[] costs = new int[MAX_PEOPLE * CHOICES];
        final int[] pays = new int[MAX_PEOPLE * CHOICES];
        // best[p * CLOTH_ROW + c]: the most that PEOPLE from p on can pay with c of CLOTH.
        final int[] best = new int[(MAX_PEOPLE + 1) * CLOTH_ROW];
        // Where the row that was filled last goes up, and to what.
        final int[] stepCloth = new int[CLOTH_ROW];
        final int[] stepPay = new int[CLOTH_ROW];
        int steps;
        final int[] chosen = new int[MAX_PEOPLE];
        int chosenCloth;
        int bestPay;
        final int[] least = new int[MAX_DRESS_QUARTERS + 2];
        final int[] nextCut = new int[MAX_DRESS_QUARTERS + 2];

        Cutter(State theState, Rules theRules, Planner thePlanner) {
            state = theState;
            rules = theRules;
            planner = thePlanner;
        }

        void planCutting(int tailor, int n) {
            Town town = state.town;
            int cloth = nearest(town.cloth[tailor], 0, MAX_CLOTH);
            for (int person = 0; person < town.peopleCount; person++) {
                planner.walk(person, n);
                for (int choice = 0; choice < CHOICES; choice++) {
                    price(person, choice, tailor, n);
                }
            }
            int behind = town.peopleCount * CLOTH_ROW;
            Arrays.fill(best, behind, behind + cloth + 1, 0);
            findSteps(behind, cloth);
            for (int person = town.peopleCount - 1; person >= 0; person--) {
                fillBest(person, cloth);
            }
            bestPay = best[cloth];
            choose(cloth);
        }

        private void price(int person, int choice, int tailor, int n) {
            Person one = state.town.people[person];
            int length = one.length + choice / 4;
            int width = one.width + choice % 4;
            int at = person * CHOICES + choice;
            rules.lookAtCoat(tailor, length, width);
            boolean isBarred = rules.isBarred(one, person, state.town.now);
            costs[at] = isBarred ? NONE : rules.clothFor(one, person, state.town.now);
            int k = planner.firstTooSmall(length, width, n);
            pays[at] = k == NONE ? 0 : planner.payAt(k, person);
        }

        private void fillBest(int person, int cloth) {
            int from = person * CLOTH_ROW;
            System.arraycopy(best, from + CLOTH_ROW, best, from, cloth + 1);
            for (int choice = 0; choice < CHOICES; choice++) {
                int cost = costs[person * CHOICES + choice];
                int pay = pays[person * CHOICES + choice];
                if (cost != NONE && pay > 0) {
                    for (int i = 0; i < steps && cost + stepCloth[i] <= cloth; i++) {
                        int at = from + cost + stepCloth[i];
                        best[at] = Math.max(best[at], pay + stepPay[i]);
                    }
                }
            }
            findSteps(from, cloth);
        }

        private void findSteps(int from, int cloth) {
            steps = 0;
            int high = NONE;
            for (int c = 0; c <= cloth; c++) {
                if (best[from + c] > high) {
                    high = best[from + c];
                    stepCloth[steps] = c;
                    stepPay[steps] = high;
                    steps++;
                }
                best[from + c] = high;
            }
        }

        private void choose(int cloth) {
            int left = cloth;
            for (int person = 0; person < state.town.peopleCount; person++) {
                int choice = firstBest(person, left);
                chosen[person] = choice;
                left -= choice == NO_COAT ? 0 : costs[person * CHOICES + choice];
            }
            chosenCloth = cloth - left;
        }

        private int firstBest(int person, int left) {
            int from = person * CLOTH_ROW;
            for (int choice = 0; choice < CHOICES; choice++) {
                int cost = costs[person * CHOICES + choice];
                int pay = pays[person * CHOICES + choice];
                if (cost != NONE && cost <= left
                        && pay + best[from + CLOTH_ROW + left - cost] == best[from + left]) {
                    return choice;
                }
            }
            return NO_COAT;
        }

        void planDressing(int person, int n) {
            planner.walk(person, n);
            least[n + 1] = 0;
            for (int cut = n; cut >= 0; cut--) {
                planner.standAt(cut, state.town.people[person].fed);
                int length = 0;
                int width = 0;
                least[cut] = Integer.MAX_VALUE;
                for (int next = cut + 1; next <= n + 1; next++) {
                    length = Math.max(length, planner.lengths[next - 1]);
                    width = Math.max(width, planner.widths[next - 1]);
                    rules.lookAtCoat(NONE, length, width);
                    int all = rules.clothFor(planner.one, person, state.town.now + cut) + least[next];
                    if (all < least[cut]) {
                        least[cut] = all;
                        nextCut[cut] = next;
                    }
                }
            }
        }

        boolean isCutAt(int end) {
            int cut = 0;
            for (int i = 0; i <= MAX_DRESS_QUARTERS && cut < end; i++) {
                cut = nextCut[cut];
            }
            return cut == end;
        }
    }
}
