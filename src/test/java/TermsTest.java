/** The document's 'Terms' 1 and 2: each sentence that names a boundary, in the document's order. */
public final class TermsTest {
    private static final Checks CHECK = new Checks("TermsTest");

    public static void main(String[] args) {
        peopleAreFive();
        purseIsToldUpTo9999();
        purseIs999999AtMostWhenOneTakes();
        purseIs999999AtMostBehindANight();
        taxesGoFromAFullPurse();
        plansKnowTheSameNight();
        coatsAreEight();
        amountsGrowTo999999AtMost();
        interestIsCut();
        taxIsNoughtAtFirst();
        taxIsAskedForEachCoatOfHis();
        dayIs359AtMost();
        heatIsNoughtAtFirst();
        eachMonthHas30Days();
        lawsAreNoughtAtFirst();
        offLetsTheseComeOff();
        cutsAreNineAtMost();
        whatIsNotThereIsNotPaid();
        asThickAsHeBears();
        strengthIsNoughtAtLeast();
        allElseGoesOnForTheFallen();
        toPayThePurseHasTheAmount();
        toTakeItComesOverAllOthers();
        aCutIsOfOneBetween();
        aRingOfTwoIsGood();
        aRingOfThreeIsGood();
        bestRingOfLikeOnes();
        bestRingAmongTheUnclad();
        CHECK.end();
    }

    private static DebtCoats one(int purse, int income, int strength) {
        DebtCoats x = new DebtCoats();
        x.person(purse, income, strength);
        return x;
    }

    /** Person 0 wears a single coat, of 1, at last, and has so much; the purse is 9999 at first. */
    private static DebtCoats oneWho(int has, int income) {
        DebtCoats x = one(9999, income, 60);
        int left = has - 9999;
        while (left > 0) {
            Checks.wear(x, 0, "a1");
            for (int c = 0; c < 7 && left > 0; c++) {
                int amount = Math.min(left, 9999);
                x.take(0, 0, amount, 0, 1);
                left -= amount;
            }
        }
        Checks.wear(x, 0, "a1");
        CHECK.due("he has so much", x.of(0, 0), has);
        return x;
    }

    private static void peopleAreFive() {
        DebtCoats x = new DebtCoats();
        for (int p = 0; p < 5; p++) {
            CHECK.due("he is not there yet", x.of(p, 0), DebtCoats.BAD);
            CHECK.due("as they come", x.person(p, 0, 1), p);
            CHECK.due("he is there", x.of(p, 0), p);
        }
        CHECK.due("a sixth", x.person(5, 0, 1), DebtCoats.FULL);
        CHECK.due("of the sixth", x.of(5, 0), DebtCoats.BAD);
        CHECK.due("the first is as he was", x.of(0, 0), 0);
    }

    private static void purseIsToldUpTo9999() {
        DebtCoats x = new DebtCoats();
        CHECK.due("purse -1", x.person(-1, 0, 1), DebtCoats.BAD);
        CHECK.due("purse 10000", x.person(10000, 0, 1), DebtCoats.BAD);
        CHECK.due("purse 999999", x.person(999999, 0, 1), DebtCoats.BAD);
        CHECK.due("income -1", x.person(0, -1, 1), DebtCoats.BAD);
        CHECK.due("income 100", x.person(0, 100, 1), DebtCoats.BAD);
        CHECK.due("strength 0", x.person(0, 0, 0), DebtCoats.BAD);
        CHECK.due("strength 61", x.person(0, 0, 61), DebtCoats.BAD);
        CHECK.due("least of all", x.person(0, 0, 1), 0);
        CHECK.due("most of all", x.person(9999, 99, 60), 1);
        CHECK.due("purse 0", x.of(0, 0), 0);
        CHECK.due("purse 9999", x.of(1, 0), 9999);
        CHECK.due("income 99", x.of(1, 1), 99);
        CHECK.due("strength 60", x.of(1, 2), 60);
    }

    private static void purseIs999999AtMostWhenOneTakes() {
        DebtCoats x = oneWho(999990, 0);
        x.take(0, 1, 9, 0, 1);
        CHECK.due("just full", x.of(0, 0), 999999);
        CHECK.due("one more is taken on all the same", x.take(0, 2, 1, 0, 1), 3);
        CHECK.due("but no more comes", x.of(0, 0), 999999);
        CHECK.due("its amount is whole", x.coat(0, 2, 1), 1);
        x.pay(0, 2);
        CHECK.due("what is paid goes", x.of(0, 0), 999998);
    }

    private static void purseIs999999AtMostBehindANight() {
        DebtCoats x = oneWho(999900, 99);
        x.nights(1);
        CHECK.due("just full by income", x.of(0, 0), 999999);
        x.nights(1);
        CHECK.due("no more comes", x.of(0, 0), 999999);
        CHECK.due("the plan knows it", x.free(0, 0), 0);
    }

    /** A NIGHT is told in its order: INCOME, TAXES, and only then is the PURSE 999999 at most. */
    private static void taxesGoFromAFullPurse() {
        int[][] nights = {{999999, 99, 9, 999999}, {999999, 9, 9, 999999}, {999999, 8, 9, 999998}, {999999, 0, 9, 999990},
            {999990, 17, 9, 999998}, {999990, 18, 9, 999999}, {999990, 19, 9, 999999}};
        for (int[] n : nights) {
            DebtCoats x = oneWho(n[0], n[1]);
            x.tax(0, 0, n[2]);
            x.nights(1);
            CHECK.due(n[0] + " and " + n[1] + " less " + n[2], x.of(0, 0), n[3]);
        }
    }

    /** The nights of a plan and of payments told are those that come. */
    private static void plansKnowTheSameNight() {
        DebtCoats x = oneWho(999999, 99);
        Checks.wear(x, 0, "a9999r20");
        x.nights(60);
        CHECK.due("the most that can be owed", x.coat(0, 0, 1), 999999);
        x.take(0, 1, 9999, 0, 1);
        x.tax(0, 0, 9);
        x.tax(0, 1, 8);
        CHECK.due("the outer one is paid", x.pay(0, 1), 1);
        CHECK.due("what is left", x.of(0, 0), 990000);
        // 90 a night are left of the income: 111 nights bring 9990, one more what is missing, and the purse is full.
        CHECK.due("in the plan he has it one day", x.free(0, 0), 112);
        Checks.tell(x, 0, 2, x.count(1) + 111, 0, 0);
        CHECK.due("judged a day ahead", x.judged(0, 2, 0, 1), 0);
        x.item(0, 2, 0, x.count(1) + 112);
        CHECK.due("judged on the day", x.judged(0, 2, 0, 1), DebtCoats.NONE);
        x.nights(60);
        x.nights(51);
        CHECK.due("a day ahead", x.pay(0, 0), DebtCoats.NONE);
        x.nights(1);
        CHECK.due("on the day", x.pay(0, 0), 0);
    }

    private static void coatsAreEight() {
        DebtCoats x = one(0, 0, 60);
        for (int c = 0; c < 8; c++) {
            CHECK.due("no coat " + c, x.coat(0, c, 1), DebtCoats.BAD);
            CHECK.due("take " + c, x.take(0, 0, c + 1, 0, 1), c + 1);
            CHECK.due("coat " + c, x.coat(0, c, 1), c + 1);
        }
        CHECK.due("a ninth", x.take(0, 0, 1, 0, 1), DebtCoats.FULL);
        CHECK.due("no coat 8", x.coat(0, 8, 1), DebtCoats.BAD);
        CHECK.due("its amount does not come", x.of(0, 0), 36);
    }

    private static void amountsGrowTo999999AtMost() {
        DebtCoats x = one(0, 0, 60);
        Checks.wear(x, 0, "a9999r20;b9999r19;c9999");
        int fast = 9999;
        int slow = 9999;
        for (int day = 1; day <= 30; day++) {
            x.nights(1);
            fast = Math.min(fast + fast * 20 / 100, 999999);
            slow = Math.min(slow + slow * 19 / 100, 999999);
            CHECK.due("at 20 on day " + day, x.coat(0, 0, 1), fast);
            CHECK.due("at 19 on day " + day, x.coat(0, 1, 1), slow);
        }
        CHECK.due("20 is full", fast, 999999);
        CHECK.due("19 is full", slow, 999999);
        CHECK.due("without a rate it stays", x.coat(0, 2, 1), 9999);
        CHECK.due("together", x.of(0, 5), 2 * 999999 + 9999);
    }

    private static void interestIsCut() {
        DebtCoats x = one(0, 0, 60);
        Checks.wear(x, 0, "a4r20;a5r20;a99r1;a100r1;a199r1;a33r3");
        int[] behind = {4, 6, 99, 101, 200, 33};
        x.nights(1);
        for (int c = 0; c < behind.length; c++) {
            CHECK.due("interest of coat " + c, x.coat(0, c, 1), behind[c]);
        }
    }

    private static void taxIsNoughtAtFirst() {
        DebtCoats x = new DebtCoats();
        for (int p = 0; p < 5; p++) {
            x.person(0, 0, 1);
        }
        for (int p = 0; p < 5; p++) {
            for (int lender = 0; lender < 5; lender++) {
                CHECK.due("tax at first " + p + " " + lender, x.tax(p, lender, 9), 0);
            }
        }
        for (int p = 0; p < 5; p++) {
            CHECK.due("tax 9", x.tax(p, 4 - p, 0), 9);
            CHECK.due("tax 0", x.tax(p, 4 - p, 1), 0);
        }
    }

    private static void taxIsAskedForEachCoatOfHis() {
        DebtCoats x = one(1000, 0, 60);
        x.tax(0, 0, 9);
        x.tax(0, 1, 2);
        x.tax(0, 2, 5);
        x.nights(1);
        CHECK.due("no coat, no tax", x.of(0, 0), 1000);
        Checks.wear(x, 0, "a1;b1;a1;a1");
        x.nights(1);
        CHECK.due("thrice 9 and 2", x.of(0, 0), 1000 - 29);
    }

    private static void dayIs359AtMost() {
        DebtCoats x = new DebtCoats();
        CHECK.due("day at first", x.count(1), 0);
        for (int k = 1; k <= 5; k++) {
            CHECK.due("sixty nights", x.nights(60), 60 * k);
        }
        CHECK.due("day 360 is refused", x.nights(60), DebtCoats.FULL);
        CHECK.due("day 358", x.nights(58), 358);
        CHECK.due("two are too many", x.nights(2), DebtCoats.FULL);
        CHECK.due("day 359", x.nights(1), 359);
        CHECK.due("one is too many", x.nights(1), DebtCoats.FULL);
        CHECK.due("the day stays", x.count(1), 359);
    }

    private static void heatIsNoughtAtFirst() {
        DebtCoats x = new DebtCoats();
        for (int month = 0; month < 12; month++) {
            CHECK.due("heat at first " + month, x.heat(month, 40), 0);
        }
        for (int month = 0; month < 12; month++) {
            CHECK.due("heat 40 of " + month, x.heat(month, 0), 40);
            CHECK.due("heat 0 of " + month, x.heat(month, 0), 0);
        }
    }

    private static void eachMonthHas30Days() {
        for (int month = 0; month < 12; month++) {
            DebtCoats x = one(0, 5, 41);
            Checks.wear(x, 0, "a1t2");
            x.heat(month, 40);
            int first = Math.max(30 * month, 1);
            CHECK.due("bears until month " + month, x.bears(0), first);
            sleepUntil(x, first - 1);
            CHECK.due("on the eve of month " + month, x.of(0, 6), DebtCoats.NONE);
            CHECK.due("what came until then", x.of(0, 0), 5 * (first - 1));
            x.nights(1);
            CHECK.due("on the first day of month " + month, x.of(0, 6), first);
            sleepUntil(x, 30 * month + 29);
            CHECK.due("on its last day", x.of(0, 0), 0);
            if (month < 11) {
                x.nights(1);
                CHECK.due("on the day behind it", x.of(0, 0), 5);
                CHECK.due("no such month comes again", x.bears(0), DebtCoats.NONE);
            }
        }
    }

    private static void sleepUntil(DebtCoats x, int day) {
        while (x.count(1) < day) {
            x.nights(Math.min(day - x.count(1), 60));
        }
    }

    private static void lawsAreNoughtAtFirst() {
        DebtCoats x = new DebtCoats();
        CHECK.due("off at first", x.rule(0, 0), 0);
        CHECK.due("cuts at first", x.rule(1, 0), 0);
        CHECK.due("off 2", x.rule(0, 2), 0);
        CHECK.due("cuts 9", x.rule(1, 9), 0);
        CHECK.due("off 3 is bad", x.rule(0, 3), DebtCoats.BAD);
        CHECK.due("cuts 10 is bad", x.rule(1, 10), DebtCoats.BAD);
        CHECK.due("off was 2", x.rule(0, 0), 2);
        CHECK.due("cuts was 9", x.rule(1, 0), 9);
    }

    private static void offLetsTheseComeOff() {
        for (int off = 0; off <= 2; off++) {
            for (int worn = 1; worn <= 8; worn++) {
                for (int coat = 0; coat < worn; coat++) {
                    DebtCoats x = one(0, 0, 60);
                    x.rule(0, off);
                    for (int c = 0; c < worn; c++) {
                        x.take(0, 0, 10 + c, 0, 1);
                    }
                    boolean mayBe = off == 0 ? coat == worn - 1 : off == 1 ? coat == 0 : coat > 0 || worn == 1;
                    String call = "off " + off + ", of " + worn + " coat " + coat;
                    CHECK.due(call, x.pay(0, coat), mayBe ? worn - 1 : DebtCoats.NOT);
                    int before = worn * (worn - 1) / 2 + 10 * worn;
                    CHECK.due(call + ", purse", x.of(0, 0), mayBe ? before - 10 - coat : before);
                    CHECK.due(call + ", owed", x.owed(0), mayBe ? before - 10 - coat : before);
                }
            }
        }
    }

    private static void cutsAreNineAtMost() {
        DebtCoats x = one(0, 0, 60);
        x.rule(1, 9);
        for (int made = 1; made <= 9; made++) {
            while (x.of(0, 3) < 3) {
                x.take(0, 0, 1, 0, 1);
            }
            CHECK.due("cut " + made, x.cut(0, 1), 2);
            CHECK.due("cuts made", x.count(4), made);
        }
        x.take(0, 0, 1, 0, 1);
        CHECK.due("a tenth", x.cut(0, 1), DebtCoats.NONE);
        CHECK.due("cuts made at last", x.count(4), 9);
        x.rule(1, 0);
        CHECK.due("those made stay made", x.count(4), 9);
    }

    private static void whatIsNotThereIsNotPaid() {
        int[] purses = {3, 4, 5};
        int[] behind = {0, 0, 1};
        for (int k = 0; k < purses.length; k++) {
            DebtCoats x = one(purses[k], 5, 60);
            Checks.wear(x, 0, "a10;a10");
            x.tax(0, 0, 4);
            x.tax(0, 1, 1);
            x.take(0, 1, 1, 0, 1);
            x.rule(0, 0);
            x.pay(0, 2);
            Checks.wear(x, 0, "a10;a10;b10");
            CHECK.due("purse ahead", x.of(0, 0), purses[k]);
            x.nights(1);
            CHECK.due("9 of " + purses[k] + " and 5", x.of(0, 0), behind[k]);
            CHECK.due("no coat is more by it", x.of(0, 5), 30);
        }
    }

    private static void asThickAsHeBears() {
        for (int heat = 0; heat <= 40; heat += 20) {
            DebtCoats x = one(50, 0, 52);
            x.person(50, 0, 52);
            x.heat(0, heat);
            int bears = 52 - heat;
            wearThick(x, 0, bears);
            wearThick(x, 1, bears + 1);
            CHECK.due("thick as he bears", x.bears(0), DebtCoats.NONE);
            CHECK.due("one more", x.bears(1), 1);
            x.nights(1);
            CHECK.due("who falls", x.count(3), 2);
            CHECK.due("the first's purse stays", x.of(0, 0), 50 + moneyOf(bears));
            CHECK.due("the other's goes", x.of(1, 0), 0);
        }
    }

    /** So many coats of 1 until they are so thick together. */
    private static void wearThick(DebtCoats x, int person, int thick) {
        for (int left = thick; left > 0; left -= 9) {
            x.take(person, 0, 1, 0, Math.min(left, 9));
        }
        CHECK.due("so thick", x.of(person, 4), thick);
    }

    private static int moneyOf(int thick) {
        return (thick + 8) / 9;
    }

    private static void strengthIsNoughtAtLeast() {
        DebtCoats x = one(5, 0, 1);
        x.person(5, 0, 1);
        x.heat(0, 40);
        Checks.wear(x, 1, "a1t1");
        CHECK.due("who wears nothing bears all", x.bears(0), DebtCoats.NONE);
        CHECK.due("the thinnest is too thick", x.bears(1), 1);
        x.nights(1);
        CHECK.due("who falls", x.count(3), 2);
        DebtCoats y = one(5, 0, 1);
        Checks.wear(y, 0, "a1t1");
        y.heat(0, 1);
        CHECK.due("1 less 1", y.bears(0), 1);
    }

    private static void allElseGoesOnForTheFallen() {
        DebtCoats x = one(500, 7, 3);
        x.person(0, 0, 60);
        Checks.wear(x, 0, "a100r10t2;b3;c2t2");
        Checks.wear(x, 1, "d4");
        x.nights(1);
        CHECK.due("fallen", x.count(3), 1);
        CHECK.due("the purse is gone", x.of(0, 0), 0);
        CHECK.due("interest of the night he falls", x.coat(0, 0, 1), 110);
        x.nights(1);
        CHECK.due("interest goes on", x.coat(0, 0, 1), 121);
        CHECK.due("the income of a night he falls goes too", x.of(0, 0), 0);
        CHECK.due("he takes on", x.take(0, 4, 9, 0, 1), 4);
        CHECK.due("he pays", x.pay(0, 3), 3);
        x.tax(0, 2, 5);
        x.tax(1, 3, 6);
        CHECK.due("he is of a ring", x.ring(0, 1, -1), 11);
        x.rule(1, 1);
        CHECK.due("the court cuts", x.cut(0, 1), 2);
        CHECK.due("as thick as he bears now", x.of(0, 4), 3);
        x.tax(0, 0, 2);
        x.nights(1);
        CHECK.due("income comes, tax goes", x.of(0, 0), 5);
        CHECK.due("fallen from then on", x.count(3), 1);
        CHECK.due("the day of the first fall", x.of(0, 6), 1);
    }

    private static void toPayThePurseHasTheAmount() {
        DebtCoats x = one(99, 1, 60);
        Checks.wear(x, 0, "a100");
        CHECK.due("one too few", x.pay(0, 0), DebtCoats.NONE);
        CHECK.due("nothing goes", x.of(0, 0), 99);
        x.nights(1);
        CHECK.due("just so much", x.pay(0, 0), 0);
        CHECK.due("all goes", x.of(0, 0), 0);
        CHECK.due("it is off", x.pay(0, 0), DebtCoats.BAD);
    }

    private static void toTakeItComesOverAllOthers() {
        DebtCoats x = one(1, 0, 60);
        CHECK.due("the first is at the skin", x.take(0, 3, 9999, 20, 9), 1);
        CHECK.due("the next is over it", x.take(0, 2, 1, 0, 1), 2);
        int[][] want = {{3, 9999, 20, 9}, {2, 1, 0, 1}};
        for (int c = 0; c < 2; c++) {
            for (int what = 0; what < 4; what++) {
                CHECK.due("coat " + c + " " + what, x.coat(0, c, what), want[c][what]);
            }
        }
        CHECK.due("what came", x.of(0, 0), 10001);
    }

    private static void aCutIsOfOneBetween() {
        for (int worn = 1; worn <= 8; worn++) {
            for (int coat = 0; coat < worn; coat++) {
                DebtCoats x = one(0, 0, 60);
                for (int c = 0; c < worn; c++) {
                    x.take(0, 0, 10 + c, 0, 1);
                }
                x.rule(1, 1);
                boolean mayBe = coat > 0 && coat < worn - 1;
                int before = x.of(0, 0);
                String call = "of " + worn + " coat " + coat + " is cut";
                CHECK.due(call, x.cut(0, coat), mayBe ? worn - 1 : DebtCoats.NOT);
                CHECK.due(call + ", for nothing", x.of(0, 0), before);
                CHECK.due(call + ", owed", x.owed(0), mayBe ? before - 10 - coat : before);
                CHECK.due(call + ", cuts", x.count(4), mayBe ? 1 : 0);
            }
        }
    }

    /** Each of so many wears one coat, of the lender with his number, taxed 5; of all others' coats the tax is 5. */
    private static DebtCoats peopleAlike(int people) {
        DebtCoats x = new DebtCoats();
        for (int p = 0; p < people; p++) {
            x.person(0, 0, 60);
            x.take(p, p, 10 + p, p, 1 + p);
            for (int lender = 0; lender < 5; lender++) {
                x.tax(p, lender, 5);
            }
        }
        return x;
    }

    private static void aRingOfTwoIsGood() {
        for (int first = -1; first <= 1; first++) {
            for (int second = -1; second <= 1; second++) {
                DebtCoats x = peopleAlike(2);
                x.tax(0, 1, 5 - first);
                x.tax(1, 0, 5 - second);
                boolean isGood = first > 0 && second > 0;
                String call = "gains " + first + ", " + second;
                CHECK.due(call + ", best", x.rings(-1), isGood ? 2 : DebtCoats.NONE);
                CHECK.due(call, x.ring(0, 1, -1), isGood ? 2 : DebtCoats.NONE);
                CHECK.due(call + ", the first's", x.coat(0, 0, 1), isGood ? 11 : 10);
                CHECK.due(call + ", the second's", x.coat(1, 0, 1), isGood ? 10 : 11);
            }
        }
    }

    private static void aRingOfThreeIsGood() {
        for (int gains = 0; gains < 27; gains++) {
            int first = gains % 3 - 1;
            int second = gains / 3 % 3 - 1;
            int third = gains / 9 - 1;
            DebtCoats x = peopleAlike(3);
            x.tax(0, 2, 5 - first);
            x.tax(1, 0, 5 - second);
            x.tax(2, 1, 5 - third);
            boolean isGood = first > 0 && second > 0 && third > 0;
            String call = "gains " + first + ", " + second + ", " + third;
            CHECK.due(call + ", best", x.rings(-1), isGood ? 3 : DebtCoats.NONE);
            CHECK.due(call + ", the third of it", x.rings(2), isGood ? 2 : DebtCoats.NONE);
            CHECK.due(call, x.ring(0, 1, 2), isGood ? 3 : DebtCoats.NONE);
            CHECK.due(call + ", the first's", x.coat(0, 0, 1), isGood ? 12 : 10);
            CHECK.due(call + ", the second's", x.coat(1, 0, 1), isGood ? 10 : 11);
            CHECK.due(call + ", the third's", x.coat(2, 0, 1), isGood ? 11 : 12);
        }
    }

    private static void dueRings(DebtCoats x, String what, int... want) {
        for (int k = 0; k < want.length; k++) {
            CHECK.due(what + ", rings " + (k - 1), x.rings(k - 1), want[k]);
        }
    }

    private static void bestRingOfLikeOnes() {
        DebtCoats x = peopleAlike(5);
        dueRings(x, "none is good", DebtCoats.NONE, DebtCoats.NONE, DebtCoats.NONE, DebtCoats.NONE);
        swapGains(x, 3, 4, 2, 2);
        dueRings(x, "the last two", 4, 3, 4, DebtCoats.NONE);
        swapGains(x, 1, 2, 1, 3);
        dueRings(x, "of like ones the first", 4, 1, 2, DebtCoats.NONE);
        x.tax(0, 3, 2);
        x.tax(1, 3, 4);
        dueRings(x, "half a ring is none", 4, 1, 2, DebtCoats.NONE);
        // 0 gets 4's, 1 gets 0's, 4 gets 1's: 2, 1, 1.
        x.tax(0, 4, 3);
        x.tax(1, 0, 4);
        x.tax(4, 1, 4);
        dueRings(x, "two ahead of three that save as much", 4, 1, 2, DebtCoats.NONE);
        x.tax(0, 4, 2);
        dueRings(x, "three that save more", 5, 0, 1, 4);
        x.ring(4, 0, 1);
        dueRings(x, "when it is made", DebtCoats.NONE, DebtCoats.NONE, DebtCoats.NONE, DebtCoats.NONE);
    }

    /** Two are better off by so much with each other's coat. */
    private static void swapGains(DebtCoats x, int one, int other, int gain, int otherGain) {
        x.tax(one, other, 5 - gain);
        x.tax(other, one, 5 - otherGain);
    }

    private static void bestRingAmongTheUnclad() {
        DebtCoats x = new DebtCoats();
        for (int p = 0; p < 5; p++) {
            x.person(0, 0, 60);
            for (int lender = 0; lender < 5; lender++) {
                x.tax(p, lender, lender == p ? 9 : 0);
            }
        }
        dueRings(x, "all are unclad", DebtCoats.NONE, DebtCoats.NONE, DebtCoats.NONE, DebtCoats.NONE);
        x.take(2, 2, 1, 0, 1);
        dueRings(x, "but one", DebtCoats.NONE, DebtCoats.NONE, DebtCoats.NONE, DebtCoats.NONE);
        x.take(4, 4, 1, 0, 1);
        dueRings(x, "but two", 18, 2, 4, DebtCoats.NONE);
        CHECK.due("the first is unclad", x.ring(0, 2, -1), DebtCoats.NOT);
        CHECK.due("the second is unclad", x.ring(2, 0, -1), DebtCoats.NOT);
        CHECK.due("the first of three is unclad", x.ring(0, 2, 4), DebtCoats.NOT);
        CHECK.due("the second of three is unclad", x.ring(2, 0, 4), DebtCoats.NOT);
        CHECK.due("the third is unclad", x.ring(2, 4, 0), DebtCoats.NOT);
        x.take(1, 1, 1, 0, 1);
        dueRings(x, "but three", 27, 1, 2, 4);
    }
}
