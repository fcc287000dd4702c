import java.util.Arrays;

/**
 * People who wear their debts as coats, one over the other. README.md tells how it is used;
 * the document (shared/DOC.md) tells, by numbered promises, what every call answers.
 */
public final class DebtCoats {
    public static final int BAD = -1, NOT = -2, FULL = -3, NONE = -4, NULL = -11, CAST = -12, INDEX = -13, SIZE = -14;

    private static final int PEOPLE = 5;
    private static final int LENDERS = 5;
    private static final int COATS = 8;
    private static final int WARES = 8;
    private static final int MONTHS = 12;
    private static final int DAYS_OF_MONTH = 30;
    private static final int LAST_DAY = 359;
    private static final int MOST_MONEY = 999999;
    private static final int MOST_TOLD = 9999;
    private static final int MOST_TOGETHER = 9999999;
    private static final int MOST_RATE = 20;
    private static final int MOST_THICK = 9;
    private static final int TAPE_BYTES = 80;
    private static final int TEXT_COATS = 6;
    private static final int FAULT = -20;
    private static final int PLANNED_COATS = 6;
    private static final int PLANNED_NIGHTS = 360;
    private static final int SHEETS = 4;
    private static final int SHEET_ITEMS = 24;
    private static final int LANES = 3;
    private static final int JUDGED_ITEMS = 3;

    private final World world;
    private final World kept;
    private final World trial;
    private final Person spare;
    private final Planner planner;
    private final BestRing bestRing;
    private final Tape tape;
    private final Sheet[] sheets;
    private boolean isKept;

    public DebtCoats() {
        world = new World();
        kept = new World();
        trial = new World();
        spare = new Person();
        planner = new Planner();
        bestRing = new BestRing();
        tape = new Tape();
        sheets = new Sheet[SHEETS];
        for (int s = 0; s < SHEETS; s++) {
            sheets[s] = new Sheet();
        }
        isKept = false;
    }

    // ---- 1 people, coats

    public int person(int purse, int income, int strength) {
        if (!isWithin(purse, 0, MOST_TOLD) || !isWithin(income, 0, 99) || !isWithin(strength, 1, 60)) {
            return BAD;
        }
        if (world.people >= PEOPLE) {
            return FULL;
        }
        world.all[world.people].begin(purse, income, strength);
        world.people++;
        return world.people - 1;
    }

    public int of(int person, int what) {
        if (!world.hasPerson(person)) {
            return BAD;
        }
        Person who = world.all[person];
        switch (what) {
            case 0:
                return who.purse;
            case 1:
                return who.income;
            case 2:
                return who.strength;
            case 3:
                return who.worn;
            case 4:
                return who.thickTogether();
            case 5:
                return Math.min(who.amountsTogether(), MOST_TOGETHER);
            case 6:
                return who.fellOn;
            default:
                return BAD;
        }
    }

    public int coat(int person, int coat, int what) {
        if (!world.hasCoat(person, coat)) {
            return BAD;
        }
        Person who = world.all[person];
        switch (what) {
            case 0:
                return who.lenders[coat];
            case 1:
                return who.amounts[coat];
            case 2:
                return who.rates[coat];
            case 3:
                return who.thicks[coat];
            default:
                return BAD;
        }
    }

    public int tax(int person, int lender, int v) {
        if (!world.hasPerson(person) || !isLender(lender) || !isWithin(v, 0, 9)) {
            return BAD;
        }
        int[] taxes = world.all[person].taxes;
        int before = taxes[lender];
        taxes[lender] = v;
        return before;
    }

    public int heat(int month, int v) {
        if (!isWithin(month, 0, MONTHS - 1) || !isWithin(v, 0, 40)) {
            return BAD;
        }
        int before = world.heats[month];
        world.heats[month] = v;
        return before;
    }

    public int rule(int what, int v) {
        if (what == 0 && isWithin(v, 0, 2)) {
            int before = world.off;
            world.off = v;
            return before;
        }
        if (what == 1 && isWithin(v, 0, 9)) {
            int before = world.cutsAllowed;
            world.cutsAllowed = v;
            return before;
        }
        return BAD;
    }

    public int type(long w, int n) {
        if (!isWithin(n, 1, 8) || !Tape.isPrintable(w, n)) {
            return BAD;
        }
        if (tape.length + n > TAPE_BYTES) {
            return FULL;
        }
        tape.append(w, n);
        return tape.length;
    }

    public int coats(int person) {
        if (!world.hasPerson(person)) {
            return BAD;
        }
        int answer = tape.readCoats(spare);
        tape.length = 0;
        if (answer >= 0) {
            world.all[person].wearAs(spare);
        }
        return answer;
    }

    public int count(int what) {
        switch (what) {
            case 0:
                return world.people;
            case 1:
                return world.day;
            case 2:
                return world.coatsOfAll();
            case 3:
                return world.fallenOnes();
            case 4:
                return world.cutsMade;
            case 5:
                return world.wares;
            default:
                return BAD;
        }
    }

    // ---- 2 nights, payments

    public int take(int person, int lender, int amount, int rate, int thick) {
        if (!world.hasPerson(person) || !isLender(lender) || !isWithin(amount, 1, MOST_TOLD)
                || !isWithin(rate, 0, MOST_RATE) || !isWithin(thick, 1, MOST_THICK)) {
            return BAD;
        }
        Person who = world.all[person];
        if (who.worn >= COATS) {
            return FULL;
        }
        who.putOn(lender, amount, rate, thick);
        who.purse = Math.min(who.purse + amount, MOST_MONEY);
        return who.worn;
    }

    public int pay(int person, int coat) {
        if (!world.hasCoat(person, coat)) {
            return BAD;
        }
        Person who = world.all[person];
        if (!mayComeOff(world.off, who.wornSet(), coat)) {
            return NOT;
        }
        if (who.purse < who.amounts[coat]) {
            return NONE;
        }
        who.payOff(coat);
        return who.worn;
    }

    public int nights(int n) {
        if (!isWithin(n, 1, 60)) {
            return BAD;
        }
        if (world.day + n > LAST_DAY) {
            return FULL;
        }
        world.passNightsUntil(world.day + n);
        return world.day;
    }

    public int cut(int person, int coat) {
        if (!world.hasCoat(person, coat)) {
            return BAD;
        }
        Person who = world.all[person];
        if (!who.isBetween(coat)) {
            return NOT;
        }
        if (world.cutsMade >= world.cutsAllowed) {
            return NONE;
        }
        who.takeOff(coat);
        world.cutsMade++;
        return who.worn;
    }

    public int ring(int a, int b, int c) {
        if (!world.hasPerson(a) || !world.hasPerson(b) || a == b) {
            return BAD;
        }
        boolean isOfThree = c != -1;
        if (isOfThree && (!world.hasPerson(c) || a == c || b == c)) {
            return BAD;
        }
        Person first = world.all[a];
        Person second = world.all[b];
        Person third = isOfThree ? world.all[c] : null;
        if (first.worn == 0 || second.worn == 0 || (third != null && third.worn == 0)) {
            return NOT;
        }
        int saved = BestRing.savedBy(first, second, third);
        if (saved == 0) {
            return NONE;
        }
        first.swapOutermost(second);
        if (third != null) {
            // The first now has the second's, which is due to the third; the third's is due to the first.
            first.swapOutermost(third);
        }
        return saved;
    }

    public int rings(int i) {
        if (!isWithin(i, -1, 2)) {
            return BAD;
        }
        bestRing.find(world);
        if (i >= bestRing.size) {
            return NONE;
        }
        if (i >= 0) {
            return bestRing.row[i];
        }
        return bestRing.size == 0 ? NONE : bestRing.saved;
    }

    public int owed(int lender) {
        if (!isLender(lender)) {
            return BAD;
        }
        int sum = 0;
        for (int p = 0; p < world.people; p++) {
            sum += world.all[p].owedTo(lender);
        }
        return Math.min(sum, MOST_TOGETHER);
    }

    // ---- 3 what will be

    public int free(int person, int what) {
        if (!world.hasPerson(person) || !isWithin(what, 0, 1 + PLANNED_COATS)) {
            return BAD;
        }
        Person who = world.all[person];
        if (who.worn > PLANNED_COATS) {
            return FULL;
        }
        planner.plan(who, world.off);
        if (planner.bestDays > PLANNED_NIGHTS) {
            return NONE;
        }
        if (what == 0) {
            return planner.bestDays;
        }
        if (what == 1) {
            return planner.bestPaid;
        }
        return what - 2 < who.worn ? planner.bestOrder[what - 2] : NONE;
    }

    public int saves(int person, int coat) {
        if (!world.hasCoat(person, coat)) {
            return BAD;
        }
        Person who = world.all[person];
        if (who.worn > PLANNED_COATS) {
            return FULL;
        }
        if (!who.isBetween(coat)) {
            return NOT;
        }
        planner.plan(who, world.off);
        int daysUncut = planner.bestDays;
        spare.becomeLike(who);
        spare.takeOff(coat);
        planner.plan(spare, world.off);
        return daysUncut - planner.bestDays;
    }

    public int bears(int person) {
        if (!world.hasPerson(person)) {
            return BAD;
        }
        Person who = world.all[person];
        for (int day = world.day + 1; day <= LAST_DAY; day++) {
            if (who.isOverburdened(world.heatOn(day))) {
                return day - world.day;
            }
        }
        return NONE;
    }

    public int ware(int amount, int thick) {
        if (!isWithin(amount, 1, MOST_TOLD) || !isWithin(thick, 1, MOST_THICK)) {
            return BAD;
        }
        if (world.wares >= WARES) {
            return FULL;
        }
        world.wareAmounts[world.wares] = amount;
        world.wareThicks[world.wares] = thick;
        world.wares++;
        return world.wares - 1;
    }

    public int under(int ware, int thick, int amount, int what) {
        if (!isWithin(ware, 0, world.wares - 1) || !isWithin(thick, 1, 99) || !isWithin(amount, 1, 99999)
                || !isWithin(what, 0, 1)) {
            return BAD;
        }
        int sets = 0;
        int least = NONE;
        for (int set = (1 << world.wares) - 1; set > 0; set--) {
            if (isIn(set, ware) && world.isSetOfWares(set, thick, amount)) {
                sets++;
                least = set;
            }
        }
        return what == 0 ? sets : least;
    }

    public int image() {
        kept.becomeLike(world);
        isKept = true;
        return 1;
    }

    public int restore() {
        if (!isKept) {
            return NONE;
        }
        world.becomeLike(kept);
        return 1;
    }

    // ---- 4 sheets

    public int judged(int sheet, int lane, int i, int n) {
        if (!isSheet(sheet) || !isLane(lane) || !isWithin(n, 1, 8)) {
            return BAD;
        }
        Sheet told = sheets[sheet];
        int refusal = told.refusal(lane, i, JUDGED_ITEMS * n);
        if (refusal != 0) {
            return refusal;
        }
        trial.becomeLike(world);
        for (int k = 0; k < n; k++) {
            int at = i + JUDGED_ITEMS * k;
            if (!trial.canBePaid(told.items[at], told.items[at + 1], told.items[at + 2])) {
                return k;
            }
        }
        return NONE;
    }

    public int sheet(int sheet, int lane, int n) {
        if (!isSheet(sheet) || !isLane(lane) || n > SHEET_ITEMS) {
            return BAD;
        }
        if (n < 0) {
            return SIZE;
        }
        sheets[sheet].begin(lane, n);
        return n;
    }

    public int drop(int sheet) {
        if (!isSheet(sheet)) {
            return BAD;
        }
        Sheet dropped = sheets[sheet];
        if (!dropped.isThere) {
            return NULL;
        }
        dropped.isThere = false;
        return dropped.length;
    }

    public int item(int sheet, int lane, int i, int v) {
        if (!isSheet(sheet) || !isLane(lane)) {
            return BAD;
        }
        Sheet changed = sheets[sheet];
        int refusal = changed.refusal(lane, i, 1);
        if (refusal != 0) {
            return refusal;
        }
        changed.items[i] = Sheet.narrowed(lane, v);
        return 1;
    }

    public int copy(int from, int i, int to, int j, int n) {
        if (!isSheet(from) || !isSheet(to)) {
            return BAD;
        }
        Sheet source = sheets[from];
        Sheet target = sheets[to];
        if (!source.isThere || !target.isThere) {
            return NULL;
        }
        if (source.lane != target.lane) {
            return CAST;
        }
        if (!source.hasItems(i, n) || !target.hasItems(j, n)) {
            return INDEX;
        }
        System.arraycopy(source.items, i, target.items, j, n);
        return n;
    }

    // ---- what more than one part needs

    private static boolean isWithin(int v, int least, int most) {
        return v >= least && v <= most;
    }

    private static boolean isLender(int lender) {
        return isWithin(lender, 0, LENDERS - 1);
    }

    private static boolean isSheet(int sheet) {
        return isWithin(sheet, 0, SHEETS - 1);
    }

    private static boolean isLane(int lane) {
        return isWithin(lane, 0, LANES - 1);
    }

    private static boolean isIn(int set, int member) {
        return (set >> member & 1) != 0;
    }

    /** Whether by the law OFF one of the coats of a set, 0 at the skin, may be the next that comes off. */
    private static boolean mayComeOff(int off, int wornSet, int coat) {
        boolean isInnermost = (wornSet & ((1 << coat) - 1)) == 0;
        boolean isOutermost = wornSet >> (coat + 1) == 0;
        if (off == 0) {
            return isOutermost;
        }
        if (off == 1) {
            return isInnermost;
        }
        return !isInnermost || isOutermost;
    }

    private static int amountNextDay(int amount, int rate) {
        return Math.min(amount + amount * rate / 100, MOST_MONEY);
    }

    /** In the order in which the document tells a NIGHT: what a full purse can't hold is cut off behind the taxes. */
    private static int purseNextDay(int purse, int income, int taxes) {
        return Math.min(Math.max(purse + income - taxes, 0), MOST_MONEY);
    }

    /** One of PEOPLE; of the coats, 0 .. worn - 1, each row holds one thing told of them. */
    private static final class Person {
        final int[] lenders = new int[COATS];
        final int[] amounts = new int[COATS];
        final int[] rates = new int[COATS];
        final int[] thicks = new int[COATS];
        final int[] taxes = new int[LENDERS];
        int worn;
        int purse;
        int income;
        int strength;
        int fellOn;

        void begin(int withPurse, int withIncome, int withStrength) {
            purse = withPurse;
            income = withIncome;
            strength = withStrength;
            fellOn = NONE;
            worn = 0;
            Arrays.fill(taxes, 0);
        }

        void becomeLike(Person other) {
            begin(other.purse, other.income, other.strength);
            fellOn = other.fellOn;
            System.arraycopy(other.taxes, 0, taxes, 0, LENDERS);
            wearAs(other);
        }

        void wearAs(Person other) {
            worn = other.worn;
            System.arraycopy(other.lenders, 0, lenders, 0, COATS);
            System.arraycopy(other.amounts, 0, amounts, 0, COATS);
            System.arraycopy(other.rates, 0, rates, 0, COATS);
            System.arraycopy(other.thicks, 0, thicks, 0, COATS);
        }

        int wornSet() {
            return (1 << worn) - 1;
        }

        boolean isBetween(int coat) {
            return coat > 0 && coat < worn - 1;
        }

        int thickTogether() {
            int sum = 0;
            for (int c = 0; c < worn; c++) {
                sum += thicks[c];
            }
            return sum;
        }

        int amountsTogether() {
            int sum = 0;
            for (int c = 0; c < worn; c++) {
                sum += amounts[c];
            }
            return sum;
        }

        int owedTo(int lender) {
            int sum = 0;
            for (int c = 0; c < worn; c++) {
                if (lenders[c] == lender) {
                    sum += amounts[c];
                }
            }
            return sum;
        }

        void putOn(int lender, int amount, int rate, int thick) {
            if (worn < COATS) {
                lenders[worn] = lender;
                amounts[worn] = amount;
                rates[worn] = rate;
                thicks[worn] = thick;
                worn++;
            }
        }

        void takeOff(int coat) {
            for (int c = coat; c < worn - 1; c++) {
                lenders[c] = lenders[c + 1];
                amounts[c] = amounts[c + 1];
                rates[c] = rates[c + 1];
                thicks[c] = thicks[c + 1];
            }
            worn--;
        }

        void payOff(int coat) {
            purse -= amounts[coat];
            takeOff(coat);
        }

        void swapOutermost(Person other) {
            swapItems(lenders, worn - 1, other.lenders, other.worn - 1);
            swapItems(amounts, worn - 1, other.amounts, other.worn - 1);
            swapItems(rates, worn - 1, other.rates, other.worn - 1);
            swapItems(thicks, worn - 1, other.thicks, other.worn - 1);
        }

        private static void swapItems(int[] row, int i, int[] otherRow, int j) {
            if (i >= 0 && j >= 0) {
                int held = row[i];
                row[i] = otherRow[j];
                otherRow[j] = held;
            }
        }

        void passNight() {
            int taxed = 0;
            for (int c = 0; c < worn; c++) {
                amounts[c] = amountNextDay(amounts[c], rates[c]);
                taxed += taxes[lenders[c]];
            }
            purse = purseNextDay(purse, income, taxed);
        }

        boolean isOverburdened(int heat) {
            return thickTogether() > Math.max(strength - heat, 0);
        }

        void fall(int day) {
            purse = 0;
            if (fellOn == NONE) {
                fellOn = day;
            }
        }
    }

    /** All that an image keeps. */
    private static final class World {
        final Person[] all = new Person[PEOPLE];
        final int[] heats = new int[MONTHS];
        final int[] wareAmounts = new int[WARES];
        final int[] wareThicks = new int[WARES];
        int people;
        int wares;
        int day;
        int off;
        int cutsAllowed;
        int cutsMade;

        World() {
            for (int p = 0; p < PEOPLE; p++) {
                all[p] = new Person();
            }
        }

        void becomeLike(World other) {
            for (int p = 0; p < other.people; p++) {
                all[p].becomeLike(other.all[p]);
            }
            System.arraycopy(other.heats, 0, heats, 0, MONTHS);
            System.arraycopy(other.wareAmounts, 0, wareAmounts, 0, WARES);
            System.arraycopy(other.wareThicks, 0, wareThicks, 0, WARES);
            people = other.people;
            wares = other.wares;
            day = other.day;
            off = other.off;
            cutsAllowed = other.cutsAllowed;
            cutsMade = other.cutsMade;
        }

        boolean hasPerson(int person) {
            return isWithin(person, 0, people - 1);
        }

        boolean hasCoat(int person, int coat) {
            return hasPerson(person) && isWithin(coat, 0, all[person].worn - 1);
        }

        int coatsOfAll() {
            int sum = 0;
            for (int p = 0; p < people; p++) {
                sum += all[p].worn;
            }
            return sum;
        }

        int fallenOnes() {
            int set = 0;
            for (int p = 0; p < people; p++) {
                if (all[p].fellOn != NONE) {
                    set |= 1 << p;
                }
            }
            return set;
        }

        int heatOn(int someDay) {
            int month = someDay / DAYS_OF_MONTH;
            return isWithin(month, 0, MONTHS - 1) ? heats[month] : 0;
        }

        void passNightsUntil(int someDay) {
            for (int d = day; d < someDay; d++) {
                passNight();
            }
        }

        private void passNight() {
            day++;
            for (int p = 0; p < people; p++) {
                all[p].passNight();
                if (all[p].isOverburdened(heatOn(day))) {
                    all[p].fall(day);
                }
            }
        }

        /** Pays a coat on a day to come, behind the nights until then; false if that can't be. */
        boolean canBePaid(int someDay, int person, int coat) {
            if (!isWithin(someDay, day, LAST_DAY) || !hasCoat(person, coat)) {
                return false;
            }
            passNightsUntil(someDay);
            Person who = all[person];
            if (!mayComeOff(off, who.wornSet(), coat) || who.purse < who.amounts[coat]) {
                return false;
            }
            who.payOff(coat);
            return true;
        }

        boolean isSetOfWares(int set, int thick, int amount) {
            int thickSum = 0;
            int amountSum = 0;
            for (int w = 0; w < wares; w++) {
                if (isIn(set, w)) {
                    thickSum += wareThicks[w];
                    amountSum += wareAmounts[w];
                }
            }
            return thickSum == thick && amountSum == amount;
        }
    }

    /** Looks for the best ring: size 0 if there is no good one. */
    private static final class BestRing {
        final int[] row = new int[3];
        int size;
        int saved;

        /** Twos come ahead of threes, and rows in their order, so that only a better one takes the place. */
        void find(World world) {
            size = 0;
            saved = 0;
            for (int a = 0; a < world.people; a++) {
                for (int b = a + 1; b < world.people; b++) {
                    keepIfBetter(savedBy(world.all[a], world.all[b], null), 2, a, b, -1);
                }
            }
            for (int a = 0; a < world.people; a++) {
                for (int b = a + 1; b < world.people; b++) {
                    findThirds(world, a, b);
                }
            }
        }

        private void findThirds(World world, int a, int b) {
            for (int c = a + 1; c < world.people; c++) {
                if (c != b) {
                    keepIfBetter(savedBy(world.all[a], world.all[b], world.all[c]), 3, a, b, c);
                }
            }
        }

        private void keepIfBetter(int nowSaved, int people, int a, int b, int c) {
            if (nowSaved > saved) {
                saved = nowSaved;
                size = people;
                row[0] = a;
                row[1] = b;
                row[2] = c;
            }
        }

        /** What a ring of two (third null) or three saves; 0 if it is not good. */
        static int savedBy(Person first, Person second, Person third) {
            int bySecond = gain(second, first);
            if (third == null) {
                int byFirst = gain(first, second);
                return byFirst > 0 && bySecond > 0 ? byFirst + bySecond : 0;
            }
            int byThird = gain(third, second);
            int byFirst = gain(first, third);
            return byFirst > 0 && bySecond > 0 && byThird > 0 ? byFirst + bySecond + byThird : 0;
        }

        /** How much less tax one pays for another's outermost coat than for his own. */
        private static int gain(Person taker, Person giver) {
            if (taker.worn < 1 || giver.worn < 1) {
                return 0;
            }
            int own = taker.lenders[taker.worn - 1];
            int got = giver.lenders[giver.worn - 1];
            return taker.taxes[own] - taker.taxes[got];
        }
    }

    /** Looks for the best order in which one's coats come off. */
    private static final class Planner {
        /** The amounts as they are when so many coats are off. */
        final int[][] amountsBehind = new int[PLANNED_COATS + 1][COATS];
        final int[] order = new int[PLANNED_COATS];
        final int[] bestOrder = new int[PLANNED_COATS];
        Person who;
        int off;
        int bestDays;
        int bestPaid;

        /** bestDays is one more than the nights looked at, if by no order he is free. */
        void plan(Person person, int byOff) {
            who = person;
            off = byOff;
            bestDays = PLANNED_NIGHTS + 1;
            bestPaid = 0;
            System.arraycopy(person.amounts, 0, amountsBehind[0], 0, COATS);
            tryEach(0, person.wornSet(), 0, person.purse, 0);
        }

        /** Goes through the orders from the first row of numbers on, so that of like ones the first stays. */
        private void tryEach(int depth, int wornSet, int day, int purse, int paid) {
            if (wornSet == 0) {
                keepIfBetter(depth, day, paid);
                return;
            }
            if (depth >= PLANNED_COATS || who == null) {
                return;
            }
            for (int c = 0; c < who.worn; c++) {
                if (isIn(wornSet, c) && mayComeOff(off, wornSet, c)) {
                    order[depth] = c;
                    payNext(depth, wornSet, day, purse, paid);
                }
            }
        }

        /** Waits until the purse has what the next coat costs; no longer than the best order took. */
        private void payNext(int depth, int wornSet, int day, int purse, int paid) {
            int[] amounts = amountsBehind[depth + 1];
            System.arraycopy(amountsBehind[depth], 0, amounts, 0, COATS);
            int coat = order[depth];
            int taxes = taxesOf(wornSet);
            int mostGain = Math.max(who.income - taxes, 0);
            int lastDay = Math.min(bestDays, PLANNED_NIGHTS);
            int waited = day;
            int has = purse;
            while (has < amounts[coat] && waited < lastDay) {
                if (has + mostGain * (lastDay - waited) < amounts[coat]) {
                    // Amounts never become less, so what all the nights can't bring is not worth the wait.
                    return;
                }
                has = purseNextDay(has, who.income, taxes);
                growAmounts(amounts, wornSet);
                waited++;
            }
            int amount = amounts[coat];
            if (has >= amount) {
                tryEach(depth + 1, wornSet & ~(1 << coat), waited, has - amount, paid + amount);
            }
        }

        private int taxesOf(int wornSet) {
            int sum = 0;
            for (int c = 0; c < who.worn; c++) {
                if (isIn(wornSet, c)) {
                    sum += who.taxes[who.lenders[c]];
                }
            }
            return sum;
        }

        private void growAmounts(int[] amounts, int wornSet) {
            for (int c = 0; c < who.worn; c++) {
                if (isIn(wornSet, c)) {
                    amounts[c] = amountNextDay(amounts[c], who.rates[c]);
                }
            }
        }

        private void keepIfBetter(int coats, int days, int paid) {
            if (days < bestDays || (days == bestDays && paid < bestPaid)) {
                bestDays = days;
                bestPaid = paid;
                System.arraycopy(order, 0, bestOrder, 0, coats);
            }
        }
    }

    /** THE TAPE, and the reading of it as coats. */
    private static final class Tape {
        final int[] bytes = new int[TAPE_BYTES];
        int length;
        private int place;

        static boolean isPrintable(long w, int n) {
            for (int k = 0; k < n; k++) {
                if (!isWithin((int) (w >> 8 * k & 255), 32, 126)) {
                    return false;
                }
            }
            return true;
        }

        void append(long w, int n) {
            for (int k = n - 1; k >= 0 && length < TAPE_BYTES; k--) {
                bytes[length] = (int) (w >> 8 * k & 255);
                length++;
            }
        }

        /** The coats of the text are put on one who wears nothing else then: how many, or a FAULT. */
        int readCoats(Person onto) {
            place = 0;
            onto.worn = 0;
            for (int k = 1; k <= TEXT_COATS; k++) {
                if (!readCoat(onto)) {
                    break;
                }
                if (nextByte() < 0) {
                    return onto.worn;
                }
                if (k == TEXT_COATS || !skipIf(';')) {
                    break;
                }
            }
            return FAULT - place;
        }

        /** False if a byte can't stand where it does: then it is the one at the place. */
        private boolean readCoat(Person onto) {
            int lender = nextByte() - 'a';
            if (!isLender(lender)) {
                return false;
            }
            place++;
            int amount = readNumber(1, MOST_TOLD);
            if (amount < 0) {
                return false;
            }
            int rate = skipIf('r') ? readNumber(0, MOST_RATE) : 0;
            if (rate < 0) {
                return false;
            }
            int thick = skipIf('t') ? readDigit() : 1;
            if (thick < 0) {
                return false;
            }
            onto.putOn(lender, amount, rate, thick);
            return true;
        }

        /** The first byte behind blanks, at which the place is then; -1 at the end. */
        private int nextByte() {
            while (place < length && bytes[place] == ' ') {
                place++;
            }
            return place < length ? bytes[place] : -1;
        }

        private boolean skipIf(int sign) {
            if (nextByte() != sign) {
                return false;
            }
            place++;
            return true;
        }

        /** -1 if there is no such number: the place is then where its first byte stands, or should. */
        private int readNumber(int least, int most) {
            nextByte();
            int first = place;
            int value = 0;
            while (place < length && isWithin(bytes[place], '0', '9')) {
                // The bound keeps long rows of digits from wrapping round into what is allowed.
                value = Math.min(value * 10 + bytes[place] - '0', MOST_MONEY);
                place++;
            }
            if (place > first && isWithin(value, least, most)) {
                return value;
            }
            place = first;
            return -1;
        }

        private int readDigit() {
            int sign = nextByte();
            if (!isWithin(sign, '1', '9')) {
                return -1;
            }
            place++;
            return sign - '0';
        }
    }

    /** A SHEET: nothing, or a row of a LANE, of which each item is kept as narrow as the lane. */
    private static final class Sheet {
        final int[] items = new int[SHEET_ITEMS];
        boolean isThere;
        int lane;
        int length;

        void begin(int ofLane, int n) {
            isThere = true;
            lane = ofLane;
            length = n;
            Arrays.fill(items, 0);
        }

        static int narrowed(int lane, int v) {
            if (lane == 0) {
                return (byte) v;
            }
            return lane == 1 ? (short) v : v;
        }

        boolean hasItems(int i, int n) {
            return n >= 0 && i >= 0 && i <= length && n <= length - i;
        }

        /** Why n items from i on of a row of a lane can't be had; 0 if they can. */
        int refusal(int ofLane, int i, int n) {
            if (!isThere) {
                return NULL;
            }
            if (lane != ofLane) {
                return CAST;
            }
            return hasItems(i, n) ? 0 : INDEX;
        }
    }
}
