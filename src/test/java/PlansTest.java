/** The document's 'Terms' 3, and the texts below it: each sentence that names a boundary, in the document's order. */
public final class PlansTest {
    private static final Checks CHECK = new Checks("PlansTest");

    public static void main(String[] args) {
        freeToday();
        asManyAsItCanOnADay();
        freeKnowsNoHeat();
        freePaysTaxesOfAllThatIsWorn();
        freeIn360Nights();
        freeBeyondTheLastDay();
        freeOfTheMostThatCanBeOwed();
        bestOrderOfSix();
        bestOrderIsSoonest();
        bestOrderPaysLeast();
        savesOfOneNotFree();
        savesByEachLaw();
        bearsUpToDay359();
        judgedDays();
        judgedPeopleAndCoats();
        judgedPurses();
        judgedByEachLaw();
        underOfEightWares();
        underOfNone();
        textsThatMayBe();
        lettersAndSigns();
        amountsOfATextAre1To9999();
        ratesOfATextAre0To20();
        thickOfATextIsADigit();
        coatsOfATextAre1To6();
        blanksOfAText();
        aTextOf80Bytes();
        CHECK.end();
    }

    private static DebtCoats one(int purse, int income, String text) {
        DebtCoats x = new DebtCoats();
        x.person(purse, income, 60);
        Checks.wear(x, 0, text);
        return x;
    }

    private static void dueFree(DebtCoats x, String what, int... want) {
        for (int k = 0; k < want.length; k++) {
            CHECK.due(what + ", free " + k, x.free(0, k), want[k]);
        }
    }

    private static void freeToday() {
        dueFree(one(100, 0, "a100"), "just so much", 0, 100, 0, DebtCoats.NONE);
        dueFree(one(99, 0, "a100"), "one too few, none comes", DebtCoats.NONE, DebtCoats.NONE, DebtCoats.NONE);
        dueFree(one(99, 1, "a100"), "one too few, one comes", 1, 100, 0, DebtCoats.NONE);
        dueFree(one(99, 1, "a100r1"), "one comes and one is more", DebtCoats.NONE, DebtCoats.NONE, DebtCoats.NONE);
        dueFree(one(99, 2, "a100r1"), "two come and one is more", 1, 101, 0);
    }

    private static void asManyAsItCanOnADay() {
        dueFree(one(30, 10, "a10;b10;c10;d10"), "three today", 1, 40, 3, 2, 1, 0);
        dueFree(one(0, 20, "a10;b10;c10;d10"), "two a day", 2, 40, 3, 2, 1, 0);
        dueFree(one(0, 19, "a10;b10;c10;d10"), "not quite two a day", 3, 40);
        // On day 2 c is 12, then b at once with what is left; a is 14 then, 16 19 22 with 9 18 27 in the purse.
        dueFree(one(0, 9, "a10r20;b6;c10r10"), "what is left stays", 5, 12 + 6 + 22, 2, 1, 0);
    }

    private static void freeKnowsNoHeat() {
        DebtCoats x = new DebtCoats();
        x.person(5, 5, 1);
        Checks.wear(x, 0, "a10t9;b10t9");
        x.heat(0, 40);
        CHECK.due("he falls by the next night", x.bears(0), 1);
        dueFree(x, "but not in the plan", 3, 20, 1, 0);
        x.nights(1);
        dueFree(x, "nor when he is fallen", 4, 20, 1, 0);
    }

    private static void freePaysTaxesOfAllThatIsWorn() {
        DebtCoats x = one(0, 10, "a20;b20;a20");
        x.tax(0, 0, 2);
        x.tax(0, 1, 1);
        // 5 a night for 4 nights, then 7 for 3, of which 1 is left, then 8 for 3, of which 5 are left.
        dueFree(x, "taxes of those worn", 10, 60, 2, 1, 0);
        x.tax(0, 0, 5);
        dueFree(x, "taxes eat all that comes", DebtCoats.NONE, DebtCoats.NONE);
        DebtCoats y = one(30, 5, "a10;b40");
        y.tax(0, 0, 9);
        // The purse becomes less, so he is never free, though he has more than the one at the skin.
        dueFree(y, "taxes of the one at the skin", DebtCoats.NONE);
        y.rule(0, 1);
        dueFree(y, "which comes off first", 4, 50, 0, 1);
        DebtCoats z = one(0, 9, "a1;b1");
        z.tax(0, 1, 9);
        dueFree(z, "what is not there is not paid", DebtCoats.NONE);
        z.tax(0, 1, 8);
        dueFree(z, "one is left of a night", 2, 2, 1, 0);
    }

    private static void freeIn360Nights() {
        dueFree(one(0, 1, "a359"), "359", 359, 359, 0);
        dueFree(one(0, 1, "a360"), "360", 360, 360, 0);
        dueFree(one(0, 1, "a361"), "361", DebtCoats.NONE, DebtCoats.NONE, DebtCoats.NONE);
        dueFree(one(0, 1, "a180;b180"), "360 of two", 360, 360, 1, 0);
        dueFree(one(0, 1, "a181;b180"), "361 of two", DebtCoats.NONE, DebtCoats.NONE, DebtCoats.NONE);
        // On night 360 there are 2087 in the purse, as much as a was behind night 359 and 19 to spare; it is 2088.
        dueFree(one(0, 99, "a100r1;b9999;c9999;d9999;e3556"), "interest of the last night", DebtCoats.NONE);
        dueFree(one(1, 99, "a100r1;b9999;c9999;d9999;e3556"), "one more at first", 360, 33553 + 2088, 4, 3, 2, 1, 0);
        DebtCoats x = one(0, 1, "a1;b180;c181");
        x.rule(0, 2);
        dueFree(x, "no order is soon enough", DebtCoats.NONE, DebtCoats.NONE, DebtCoats.NONE);
        x.take(0, 0, 2, 0, 1);
        dueFree(x, "with two more in the purse, but two more to pay", DebtCoats.NONE);
    }

    private static void freeBeyondTheLastDay() {
        DebtCoats x = one(0, 1, "a1;b718");
        for (int k = 0; k < 5; k++) {
            x.nights(60);
        }
        x.nights(59);
        dueFree(x, "from day 359 on", 360, 719, 1, 0);
        Checks.wear(x, 0, "a1;b719");
        dueFree(x, "a night too many", DebtCoats.NONE);
    }

    private static void freeOfTheMostThatCanBeOwed() {
        DebtCoats x = one(9999, 0, "a1");
        for (int k = 0; k < 15; k++) {
            Checks.wear(x, 0, "a1");
            for (int c = 0; c < 7; c++) {
                x.take(0, 0, 9999, 0, 1);
            }
        }
        Checks.wear(x, 0, "a9999r20");
        x.nights(60);
        CHECK.due("most that can be had", x.of(0, 0), 999999);
        CHECK.due("most that can be owed", x.of(0, 5), 999999);
        dueFree(x, "most that can be paid", 0, 999999, 0);
        Checks.wear(x, 0, "a9999r20;b1");
        x.nights(60);
        dueFree(x, "more than can be had", DebtCoats.NONE);
        CHECK.due("the one over it is paid", x.pay(0, 1), 1);
        CHECK.due("it can't be paid", x.pay(0, 0), DebtCoats.NONE);
    }

    private static void bestOrderOfSix() {
        DebtCoats x = one(60, 0, "a10;b10;c10;d10;e10;a10");
        dueFree(x, "outermost alone", 0, 60, 5, 4, 3, 2, 1, 0, DebtCoats.BAD);
        x.rule(0, 1);
        dueFree(x, "innermost alone", 0, 60, 0, 1, 2, 3, 4, 5, DebtCoats.BAD);
        x.rule(0, 2);
        dueFree(x, "any but the innermost", 0, 60, 1, 2, 3, 4, 5, 0, DebtCoats.BAD);
        x.take(0, 0, 1, 0, 1);
        for (int what = 0; what <= 7; what++) {
            CHECK.due("seven, free " + what, x.free(0, what), DebtCoats.FULL);
        }
        x.take(0, 0, 1, 0, 1);
        CHECK.due("eight", x.free(0, 0), DebtCoats.FULL);
        x.pay(0, 7);
        x.pay(0, 6);
        CHECK.due("six again", x.free(0, 0), 0);
        DebtCoats y = one(0, 60, "a10");
        y.rule(0, 2);
        dueFree(y, "alone", 1, 10, 0, DebtCoats.NONE);
    }

    private static void bestOrderIsSoonest() {
        DebtCoats x = oneOfManyOrders();
        int days = x.free(0, 0);
        int[] order = {x.free(0, 2), x.free(0, 3), x.free(0, 4), x.free(0, 5), x.free(0, 6)};
        CHECK.due("by hand the same days", walk(order), days);
        CHECK.due("no other order is sooner", soonest(new int[] {1, 2, 3, 4}, 0), days);
        CHECK.holds("the first row is later", walk(new int[] {1, 2, 3, 4, 0}) > days);
    }

    private static DebtCoats oneOfManyOrders() {
        DebtCoats x = one(0, 20, "a5;b100;c15;d40r3;e30");
        x.rule(0, 2);
        x.tax(0, 4, 4);
        x.tax(0, 2, 3);
        return x;
    }

    /** The least days of all orders of those from some place on, the innermost last. */
    private static int soonest(int[] outer, int from) {
        if (from == outer.length) {
            return walk(new int[] {outer[0], outer[1], outer[2], outer[3], 0});
        }
        int least = Integer.MAX_VALUE;
        for (int k = from; k < outer.length; k++) {
            int[] next = outer.clone();
            next[from] = outer[k];
            next[k] = outer[from];
            least = Math.min(least, soonest(next, from + 1));
        }
        return least;
    }

    /** By how many nights he is free by this order, each coat paid, each night passed. */
    private static int walk(int[] order) {
        DebtCoats y = oneOfManyOrders();
        for (int k = 0; k < order.length; k++) {
            int coat = order[k];
            for (int before = 0; before < k; before++) {
                coat -= order[before] < order[k] ? 1 : 0;
            }
            while (y.pay(0, coat) < 0) {
                if (y.nights(1) < 0) {
                    return Integer.MAX_VALUE;
                }
            }
        }
        return y.count(1);
    }

    private static void bestOrderPaysLeast() {
        DebtCoats x = one(10, 10, "a1;b10r10;c10");
        x.rule(0, 2);
        dueFree(x, "b today, ahead of its interest", 2, 21, 1, 2, 0);
        Checks.wear(x, 0, "a1;b10;c10r10");
        dueFree(x, "c today, ahead of its interest", 2, 21, 2, 1, 0);
        Checks.wear(x, 0, "a1;b10;c10");
        dueFree(x, "of like ones the first row", 2, 21, 1, 2, 0);
        Checks.wear(x, 0, "a1;b10r10;c10r10");
        dueFree(x, "of like ones with interest too", 2, 23, 1, 2, 0);
    }

    private static void savesOfOneNotFree() {
        CHECK.due("free today by it", one(2, 0, "a1;b9999;c1").saves(0, 1), 361);
        CHECK.due("free on the last day by it", one(0, 1, "a359;b1;c1").saves(0, 1), 1);
        CHECK.due("not by the last day even so", one(0, 1, "a360;b1;c1").saves(0, 1), 0);
        CHECK.due("from the last day to the first", one(0, 1, "a1;b358;c1").saves(0, 1), 358);
        CHECK.due("free today anyway", one(3, 0, "a1;b1;c1").saves(0, 1), 0);
        DebtCoats x = one(0, 1, "a1;b9;c1");
        CHECK.due("though the court may not", x.saves(0, 1), 9);
        x.rule(1, 9);
        CHECK.due("as if it may", x.saves(0, 1), 9);
        CHECK.due("one coat", one(0, 1, "a1").saves(0, 0), DebtCoats.NOT);
        CHECK.due("two coats, the inner", one(0, 1, "a1;b1").saves(0, 0), DebtCoats.NOT);
        CHECK.due("two coats, the outer", one(0, 1, "a1;b1").saves(0, 1), DebtCoats.NOT);
        CHECK.due("no coat", x.saves(0, 3), DebtCoats.BAD);
    }

    private static void savesByEachLaw() {
        DebtCoats x = one(0, 10, "a50r4;b30;c30r4;d10");
        for (int off = 0; off <= 2; off++) {
            x.rule(0, off);
            for (int coat = 1; coat <= 2; coat++) {
                int saves = x.saves(0, coat);
                int before = x.free(0, 0);
                x.image();
                x.rule(1, 1);
                CHECK.due("cut", x.cut(0, coat), 3);
                CHECK.due("what it saves is what it will be", saves, before - x.free(0, 0));
                x.restore();
            }
        }
    }

    private static void bearsUpToDay359() {
        DebtCoats x = one(0, 0, "a1t9;b1t9;c1t3");
        CHECK.due("without heat", x.bears(0), DebtCoats.NONE);
        x.heat(11, 39);
        CHECK.due("as thick as he bears", x.bears(0), DebtCoats.NONE);
        x.heat(11, 40);
        CHECK.due("from the first on", x.bears(0), 330);
        for (int k = 0; k < 5; k++) {
            x.nights(60);
        }
        CHECK.due("from day 300 on", x.bears(0), 30);
        x.heat(10, 40);
        CHECK.due("this month counts too", x.bears(0), 1);
        x.heat(10, 0);
        x.nights(58);
        CHECK.due("from day 358 on", x.bears(0), 1);
        x.nights(1);
        CHECK.due("from day 359 on", x.bears(0), DebtCoats.NONE);
        x.heat(0, 40);
        CHECK.due("no year comes again", x.bears(0), DebtCoats.NONE);
    }

    private static int judge(DebtCoats x, int... items) {
        Checks.tell(x, 0, 2, items);
        return x.judged(0, 2, 0, items.length / 3);
    }

    private static void judgedDays() {
        DebtCoats x = one(9, 0, "a1;b1;c1");
        CHECK.due("a day ahead of the first", judge(x, -1, 0, 2), 0);
        CHECK.due("day 0", judge(x, 0, 0, 2), DebtCoats.NONE);
        x.nights(5);
        CHECK.due("yesterday", judge(x, 4, 0, 2), 0);
        CHECK.due("today", judge(x, 5, 0, 2), DebtCoats.NONE);
        CHECK.due("tomorrow", judge(x, 6, 0, 2), DebtCoats.NONE);
        CHECK.due("the last day", judge(x, 359, 0, 2), DebtCoats.NONE);
        CHECK.due("beyond it", judge(x, 360, 0, 2), 0);
        CHECK.due("far beyond it", judge(x, Integer.MAX_VALUE, 0, 2), 0);
        CHECK.due("far ahead", judge(x, Integer.MIN_VALUE, 0, 2), 0);
        CHECK.due("twice on a day", judge(x, 7, 0, 2, 7, 0, 1), DebtCoats.NONE);
        CHECK.due("back by a day", judge(x, 7, 0, 2, 6, 0, 1), 1);
        CHECK.due("the first of two", judge(x, 4, 0, 2, 4, 0, 1), 0);
        CHECK.due("the third", judge(x, 5, 0, 2, 6, 0, 1, 5, 0, 0), 2);
        CHECK.due("all on the last day", judge(x, 359, 0, 2, 359, 0, 1, 359, 0, 0), DebtCoats.NONE);
        CHECK.due("the day stays", x.count(1), 5);
    }

    private static void judgedPeopleAndCoats() {
        DebtCoats x = one(9, 0, "a1;b1");
        CHECK.due("one too high", judge(x, 0, 1, 0), 0);
        CHECK.due("below the first", judge(x, 0, -1, 0), 0);
        CHECK.due("a coat too high", judge(x, 0, 0, 2), 0);
        CHECK.due("below the skin", judge(x, 0, 0, -1), 0);
        CHECK.due("far too high", judge(x, 0, Integer.MAX_VALUE, Integer.MAX_VALUE), 0);
        CHECK.due("far too low", judge(x, 0, Integer.MIN_VALUE, Integer.MIN_VALUE), 0);
        CHECK.due("a coat that is off", judge(x, 0, 0, 1, 0, 0, 1), 1);
        CHECK.due("the last is off", judge(x, 0, 0, 1, 0, 0, 0, 0, 0, 0), 2);
        x.person(0, 0, 1);
        CHECK.due("who wears none", judge(x, 0, 1, 0), 0);
        CHECK.due("nobody", judge(new DebtCoats(), 0, 0, 0), 0);
    }

    private static void judgedPurses() {
        DebtCoats x = one(9, 1, "a20r10;b10");
        CHECK.due("one too few", judge(x, 0, 0, 1), 0);
        CHECK.due("just so much", judge(x, 1, 0, 1), DebtCoats.NONE);
        // a is 22, 24, 26, 28, 30, 33 .. and 1 a night comes.
        CHECK.due("what is paid is gone", judge(x, 1, 0, 1, 20, 0, 0), 1);
        x.tax(0, 1, 1);
        CHECK.due("taxes of the nights between", judge(x, 50, 0, 1), 0);
        x.tax(0, 1, 0);
        x.heat(0, 40);
        x.take(0, 2, 1, 0, 9);
        CHECK.due("as thick as he bears", judge(x, 1, 0, 2), DebtCoats.NONE);
        x.take(0, 2, 9, 0, 9);
        x.take(0, 2, 9, 0, 1);
        CHECK.due("21 of 20: the purse goes", judge(x, 1, 0, 4), 0);
        CHECK.due("today it does not", judge(x, 0, 0, 4), DebtCoats.NONE);
        CHECK.due("one coat less on the eve", judge(x, 0, 0, 4, 1, 0, 3), DebtCoats.NONE);
        CHECK.due("nobody is fallen", x.count(3), 0);
    }

    private static void judgedByEachLaw() {
        int[][] due = {{0, 0, DebtCoats.NONE}, {DebtCoats.NONE, 0, 0}, {0, DebtCoats.NONE, DebtCoats.NONE}};
        DebtCoats x = one(9, 0, "a1;b1;c1");
        for (int off = 0; off <= 2; off++) {
            x.rule(0, off);
            for (int coat = 0; coat <= 2; coat++) {
                CHECK.due("off " + off + ", coat " + coat, judge(x, 0, 0, coat), due[off][coat]);
            }
        }
        CHECK.due("the innermost when it is alone", judge(x, 0, 0, 1, 0, 0, 1, 0, 0, 0), DebtCoats.NONE);
        CHECK.due("the innermost of two", judge(x, 0, 0, 1, 0, 0, 0), 1);
    }

    private static void underOfEightWares() {
        DebtCoats x = new DebtCoats();
        for (int w = 0; w < 8; w++) {
            x.ware(1 << w, 1);
        }
        CHECK.due("all", x.under(0, 8, 255, 1), 255);
        CHECK.due("all is one set", x.under(7, 8, 255, 0), 1);
        CHECK.due("the first alone", x.under(0, 1, 1, 1), 1);
        CHECK.due("the last alone", x.under(7, 1, 128, 1), 128);
        CHECK.due("the last does not show", x.under(7, 1, 64, 1), DebtCoats.NONE);
        CHECK.due("no more than all", x.under(0, 9, 256, 0), 0);
        DebtCoats y = new DebtCoats();
        for (int w = 0; w < 8; w++) {
            y.ware(9999, 9);
        }
        CHECK.due("four of eight with one", y.under(5, 36, 4 * 9999, 0), 35);
        CHECK.due("the least of them", y.under(5, 36, 4 * 9999, 1), 32 + 7);
        CHECK.due("all of the most", y.under(0, 72, 79992, 1), 255);
        CHECK.due("one more", y.under(0, 72, 79993, 1), DebtCoats.NONE);
    }

    private static void underOfNone() {
        DebtCoats x = new DebtCoats();
        CHECK.due("no wares", x.under(0, 1, 1, 0), DebtCoats.BAD);
        x.ware(5, 2);
        x.ware(1, 1);
        CHECK.due("ware 1", x.under(1, 1, 1, 0), 1);
        CHECK.due("no ware 2", x.under(2, 1, 1, 0), DebtCoats.BAD);
        CHECK.due("too thick", x.under(0, 1, 5, 0), 0);
        CHECK.due("too thick, the least", x.under(0, 1, 5, 1), DebtCoats.NONE);
        CHECK.due("too much", x.under(0, 2, 4, 0), 0);
        CHECK.due("too thin", x.under(0, 3, 5, 0), 0);
        CHECK.due("both", x.under(0, 3, 6, 1), 3);
        CHECK.due("thick 0", x.under(0, 0, 5, 1), DebtCoats.BAD);
        CHECK.due("thick 99", x.under(0, 99, 5, 1), DebtCoats.NONE);
        CHECK.due("thick 100", x.under(0, 100, 5, 1), DebtCoats.BAD);
        CHECK.due("amount 0", x.under(0, 2, 0, 1), DebtCoats.BAD);
        CHECK.due("amount 99999", x.under(0, 2, 99999, 1), DebtCoats.NONE);
        CHECK.due("amount 100000", x.under(0, 2, 100000, 1), DebtCoats.BAD);
    }

    /** One who wears e77 is to wear a text: how many coats, or at which place (told as -1 less it) the fault is. */
    private static DebtCoats dueText(String text, int want) {
        DebtCoats x = one(3, 0, "e77");
        int due = want < 0 ? -19 + want : want;
        CHECK.due("'" + text + "'", Checks.wear(x, 0, text), due);
        CHECK.due("'" + text + "', worn", x.of(0, 3), Math.max(want, 1));
        CHECK.due("'" + text + "', the purse stays", x.of(0, 0), 3);
        CHECK.due("'" + text + "', the tape is empty", x.type(' ', 1), 1);
        if (want < 0) {
            CHECK.due("'" + text + "', he wears what he wore", x.of(0, 5), 77);
        }
        return x;
    }

    private static int fault(int place) {
        return -1 - place;
    }

    private static void dueCoat(DebtCoats x, int coat, int... want) {
        for (int what = 0; what < 4; what++) {
            CHECK.due("coat " + coat + " " + what, x.coat(0, coat, what), want[what]);
        }
    }

    private static void textsThatMayBe() {
        dueCoat(dueText("a1", 1), 0, 0, 1, 0, 1);
        dueCoat(dueText("e9999r20t9", 1), 0, 4, 9999, 20, 9);
        dueCoat(dueText("b7r0t1", 1), 0, 1, 7, 0, 1);
        dueCoat(dueText("c7t9", 1), 0, 2, 7, 0, 9);
        dueCoat(dueText("d7r9", 1), 0, 3, 7, 9, 1);
        DebtCoats x = dueText("a1r2t3;b4;c5t6", 3);
        dueCoat(x, 0, 0, 1, 2, 3);
        dueCoat(x, 1, 1, 4, 0, 1);
        dueCoat(x, 2, 2, 5, 0, 6);
    }

    private static void lettersAndSigns() {
        for (int sign = 32; sign <= 126; sign++) {
            String text = new String(new char[] {(char) sign, '1'});
            dueText(text, sign >= 'a' && sign <= 'e' ? 1 : fault(sign == ' ' ? 1 : 0));
            String behind = new String(new char[] {'a', '1', (char) sign});
            boolean isFine = sign == ' ' || (sign >= '0' && sign <= '9');
            dueText(behind, isFine ? 1 : fault(sign == 'r' || sign == 't' || sign == ';' ? 3 : 2));
            String between = new String(new char[] {'a', (char) sign, '1'});
            dueText(between, isFine ? 1 : fault(1));
        }
    }

    private static void amountsOfATextAre1To9999() {
        dueText("a0", fault(1));
        dueText("a1", 1);
        dueText("a9999", 1);
        dueText("a10000", fault(1));
        dueText("a  10000", fault(3));
        dueText("a0000", fault(1));
        dueCoat(dueText("a00009999", 1), 0, 0, 9999, 0, 1);
        dueText("a4294967297", fault(1));
        dueText("a18446744073709551617", fault(1));
        dueText("a", fault(1));
        dueText("a  ", fault(3));
        dueText("ar1", fault(1));
        dueText("a;", fault(1));
        dueText("b2;a10000;c", fault(4));
    }

    private static void ratesOfATextAre0To20() {
        dueCoat(dueText("a1r0", 1), 0, 0, 1, 0, 1);
        dueCoat(dueText("a1r20", 1), 0, 0, 1, 20, 1);
        dueText("a1r21", fault(3));
        dueText("a1r100", fault(3));
        dueText("a1r4294967296", fault(3));
        dueCoat(dueText("a1r00020", 1), 0, 0, 1, 20, 1);
        dueText("a1r", fault(3));
        dueText("a1r  ", fault(5));
        dueText("a1rt1", fault(3));
        dueText("a1r;", fault(3));
        dueText("a1r1r1", fault(4));
        dueText("a1 r 1 r", fault(7));
    }

    private static void thickOfATextIsADigit() {
        dueText("a1t0", fault(3));
        dueCoat(dueText("a1t1", 1), 0, 0, 1, 0, 1);
        dueCoat(dueText("a1t9", 1), 0, 0, 1, 0, 9);
        dueText("a1t:", fault(3));
        dueText("a1t10", fault(4));
        dueText("a1t01", fault(3));
        dueText("a1t", fault(3));
        dueText("a1t ", fault(4));
        dueText("a1t;", fault(3));
        dueText("a1t1t1", fault(4));
        dueText("a1t1r1", fault(4));
    }

    private static void coatsOfATextAre1To6() {
        dueText("", fault(0));
        dueText("    ", fault(4));
        dueText("a1;b2;c3;d4;e5", 5);
        dueText("a1;b2;c3;d4;e5;a6", 6);
        dueText("a1;b2;c3;d4;e5;a6;", fault(17));
        dueText("a1;b2;c3;d4;e5;a6;b7", fault(17));
        dueText("a1;b2;c3;d4;e5;a6 ; ", fault(18));
        dueText("a1;b2;c3;d4;e5;", fault(15));
        dueText("a1;", fault(3));
        dueText(";", fault(0));
        dueText("a1;;b1", fault(3));
        dueText("a1b1", fault(2));
        dueText("a1 b1", fault(3));
    }

    private static void blanksOfAText() {
        dueText(" a1", 1);
        dueText("a1 ", 1);
        dueCoat(dueText("  a  12  r  13  t  4  ", 1), 0, 0, 12, 13, 4);
        dueText("a1 ; b1", 2);
        dueText("a1 2", fault(3));
        dueText("a1r1 2", fault(5));
        dueText("a1t1 2", fault(5));
        dueText("a9999 9", fault(6));
        dueText("a1;   f1", fault(6));
        dueText("a1 ;  ", fault(6));
    }

    private static void aTextOf80Bytes() {
        String coat = "e9999r20t9";
        String six = coat + ";" + coat + ";" + coat + ";" + coat + ";" + coat + ";" + coat;
        DebtCoats x = dueText(" ".repeat(80 - six.length()) + six, 6);
        dueCoat(x, 5, 4, 9999, 20, 9);
        dueText("a1" + " ".repeat(78), 1);
        dueText("a1;" + " ".repeat(77), fault(80));
        dueText(" ".repeat(79) + "a", fault(80));
        dueText(" ".repeat(78) + "a1", 1);
        dueText("a" + "0".repeat(78) + "7", 1);
        dueText("a" + "9".repeat(79), fault(1));
        dueText(" ".repeat(79) + "x", fault(79));
    }
}
