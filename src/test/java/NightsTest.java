/** Promises 11 to 17: nights, payments. */
public final class NightsTest {
    private static final Checks CHECK = new Checks("NightsTest");

    public static void main(String[] args) {
        promise11Take();
        promise12Pay();
        promise13Nights();
        promise13Bounds();
        promise13Heat();
        promise14Cut();
        promise15Ring();
        promise15Threes();
        promise16Rings();
        promise17Owed();
        CHECK.end();
    }

    private static void promise11Take() {
        DebtCoats x = new DebtCoats();
        x.person(5, 99, 60);
        int[][] bad = {{1, 0, 1, 0, 1}, {-1, 0, 1, 0, 1}, {0, -1, 1, 0, 1}, {0, 5, 1, 0, 1}, {0, 0, 0, 0, 1},
            {0, 0, 10000, 0, 1}, {0, 0, 1, -1, 1}, {0, 0, 1, 21, 1}, {0, 0, 1, 0, 0}, {0, 0, 1, 0, 10}};
        for (int[] b : bad) {
            CHECK.due("take bad", x.take(b[0], b[1], b[2], b[3], b[4]), DebtCoats.BAD);
        }
        CHECK.due("take", x.take(0, 4, 9999, 20, 9), 1);
        CHECK.due("its amount comes to the purse", x.of(0, 0), 10004);
        for (int k = 2; k <= 8; k++) {
            CHECK.due("take " + k, x.take(0, 0, k, 0, 1), k);
        }
        CHECK.due("take full", x.take(0, 0, 1, 0, 1), DebtCoats.FULL);
        CHECK.due("take bad ahead of full", x.take(0, 0, 1, 0, 0), DebtCoats.BAD);
        CHECK.due("over all others", x.coat(0, 7, 1), 8);
        CHECK.due("at the skin", x.coat(0, 0, 0), 4);
        for (int k = 0; k < 15; k++) {
            Checks.wear(x, 0, "a1");
            for (int c = 0; c < 7; c++) {
                x.take(0, 0, 9999, 0, 1);
            }
        }
        CHECK.due("the purse has 999999 at most", x.of(0, 0), 999999);
        x.nights(1);
        CHECK.due("and behind a night with income", x.of(0, 0), 999999);
    }

    private static void promise12Pay() {
        DebtCoats x = new DebtCoats();
        x.person(100, 0, 60);
        CHECK.due("pay of the unclad", x.pay(0, 0), DebtCoats.BAD);
        Checks.wear(x, 0, "a10;b20;c30;d40;e1");
        CHECK.due("pay person 1", x.pay(1, 0), DebtCoats.BAD);
        CHECK.due("pay coat 5", x.pay(0, 5), DebtCoats.BAD);
        CHECK.due("pay coat -1", x.pay(0, -1), DebtCoats.BAD);
        CHECK.due("0: the innermost not", x.pay(0, 0), DebtCoats.NOT);
        CHECK.due("0: one between not", x.pay(0, 3), DebtCoats.NOT);
        CHECK.due("0: the outermost", x.pay(0, 4), 4);
        CHECK.due("purse", x.of(0, 0), 99);
        x.rule(0, 1);
        CHECK.due("1: the outermost not", x.pay(0, 3), DebtCoats.NOT);
        CHECK.due("1: the innermost", x.pay(0, 0), 3);
        CHECK.due("the next is at the skin", x.coat(0, 0, 0), 1);
        x.rule(0, 2);
        CHECK.due("2: the innermost not", x.pay(0, 0), DebtCoats.NOT);
        CHECK.due("2: one between", x.pay(0, 1), 2);
        CHECK.due("2: the outermost", x.pay(0, 1), 1);
        CHECK.due("purse of 19", x.of(0, 0), 19);
        CHECK.due("not so much", x.pay(0, 0), DebtCoats.NONE);
        x.take(0, 0, 1, 0, 1);
        CHECK.due("not ahead of none", x.pay(0, 0), DebtCoats.NOT);
        x.rule(0, 1);
        CHECK.due("just so much", x.pay(0, 0), 1);
        CHECK.due("purse is empty", x.of(0, 0), 0);
        CHECK.due("none of what is left", x.pay(0, 0), DebtCoats.NONE);
        Checks.wear(x, 0, "e5");
        x.take(0, 0, 9, 0, 1);
        x.rule(0, 2);
        x.pay(0, 1);
        x.take(0, 0, 9, 0, 1);
        Checks.wear(x, 0, "e5");
        CHECK.due("2: alone", x.pay(0, 0), 0);
        Checks.wear(x, 0, "a1;b2r3t4;c5r6t7");
        x.rule(0, 1);
        x.pay(0, 0);
        int[] next = {1, 2, 3, 4};
        for (int what = 0; what < 4; what++) {
            CHECK.due("what lay over it " + what, x.coat(0, 0, what), next[what]);
        }
    }

    private static void promise13Nights() {
        DebtCoats x = new DebtCoats();
        x.person(10, 5, 60);
        x.person(3, 1, 60);
        Checks.wear(x, 0, "a150r7;b99r1;a1r20");
        Checks.wear(x, 1, "c10");
        x.tax(0, 0, 2);
        x.tax(0, 1, 9);
        x.tax(1, 2, 9);
        CHECK.due("nights 0", x.nights(0), DebtCoats.BAD);
        CHECK.due("nights -1", x.nights(-1), DebtCoats.BAD);
        CHECK.due("nights 61", x.nights(61), DebtCoats.BAD);
        CHECK.due("a night", x.nights(1), 1);
        CHECK.due("150 at 7", x.coat(0, 0, 1), 160);
        CHECK.due("99 at 1 is cut", x.coat(0, 1, 1), 99);
        CHECK.due("1 at 20 is cut", x.coat(0, 2, 1), 1);
        CHECK.due("10 and 5 less 2, 9, 2", x.of(0, 0), 2);
        CHECK.due("what is not there is not paid", x.of(1, 0), 0);
        CHECK.due("two nights", x.nights(2), 3);
        CHECK.due("171 at 7 of 160 twice", x.coat(0, 0, 1), 182);
        CHECK.due("purse stays at 0", x.of(0, 0), 0);
    }

    private static void promise13Bounds() {
        DebtCoats x = new DebtCoats();
        x.person(9999, 99, 60);
        Checks.wear(x, 0, "a9999r20");
        for (int k = 1; k <= 5; k++) {
            CHECK.due("sixty nights", x.nights(60), 60 * k);
        }
        CHECK.due("amounts are 999999 at most", x.coat(0, 0, 1), 999999);
        CHECK.due("incomes", x.of(0, 0), 9999 + 99 * 300);
        CHECK.due("to day 360", x.nights(60), DebtCoats.FULL);
        CHECK.due("refused changes nothing", x.count(1), 300);
        CHECK.due("to day 359", x.nights(59), 359);
        CHECK.due("beyond day 359", x.nights(1), DebtCoats.FULL);
        CHECK.due("bad ahead of full", x.nights(61), DebtCoats.BAD);
    }

    private static void promise13Heat() {
        DebtCoats x = new DebtCoats();
        x.person(100, 10, 10);
        x.person(100, 10, 60);
        Checks.wear(x, 0, "a1t5;b1t2");
        x.person(100, 10, 1);
        x.heat(1, 3);
        x.heat(2, 4);
        x.nights(59);
        CHECK.due("as thick as he bears", x.count(3), 0);
        x.nights(1);
        CHECK.due("more than he bears", x.count(3), 1);
        CHECK.due("on day", x.of(0, 6), 60);
        CHECK.due("his purse goes", x.of(0, 0), 0);
        CHECK.due("the other's purse stays", x.of(1, 0), 700);
        x.nights(1);
        CHECK.due("his purse goes again", x.of(0, 0), 0);
        CHECK.due("the first day stays", x.of(0, 6), 60);
        x.nights(29);
        CHECK.due("in the next month it does not", x.of(0, 0), 10);
        CHECK.due("fallen from then on", x.count(3), 1);
        CHECK.due("he pays as others do", x.pay(0, 1), 1);
        x.heat(3, 40);
        Checks.wear(x, 2, "a1");
        x.nights(1);
        CHECK.due("strength is 0 at least: coats of 1 are too much", x.count(3), 5);
        x.pay(1, 0);
        CHECK.due("who wears none bears any heat", x.of(1, 6), DebtCoats.NONE);
    }

    private static void promise14Cut() {
        DebtCoats x = new DebtCoats();
        x.person(100, 0, 60);
        Checks.wear(x, 0, "a1;b2;c3;d4;e5");
        CHECK.due("cut person 1", x.cut(1, 1), DebtCoats.BAD);
        CHECK.due("cut coat 5", x.cut(0, 5), DebtCoats.BAD);
        CHECK.due("cut coat -1", x.cut(0, -1), DebtCoats.BAD);
        CHECK.due("innermost ahead of none", x.cut(0, 0), DebtCoats.NOT);
        CHECK.due("outermost ahead of none", x.cut(0, 4), DebtCoats.NOT);
        CHECK.due("none may be cut", x.cut(0, 1), DebtCoats.NONE);
        x.rule(1, 2);
        CHECK.due("cut", x.cut(0, 2), 4);
        CHECK.due("those over it come down", x.coat(0, 2, 0), 3);
        CHECK.due("for nothing", x.of(0, 0), 100);
        CHECK.due("cuts made", x.count(4), 1);
        CHECK.due("the last that may be", x.cut(0, 1), 3);
        CHECK.due("one too many", x.cut(0, 1), DebtCoats.NONE);
        x.rule(1, 1);
        CHECK.due("the law takes back", x.cut(0, 1), DebtCoats.NONE);
        x.rule(1, 3);
        CHECK.due("the law gives", x.cut(0, 1), 2);
        CHECK.due("of two none is between", x.cut(0, 1), DebtCoats.NOT);
        CHECK.due("cuts made at last", x.count(4), 3);
    }

    private static void promise15Ring() {
        DebtCoats x = new DebtCoats();
        x.person(0, 0, 60);
        x.person(0, 0, 60);
        x.person(0, 0, 60);
        Checks.wear(x, 0, "e9;a10r1t2");
        Checks.wear(x, 1, "b20r3t4");
        int[][] bad = {{0, 0, -1}, {0, 3, -1}, {3, 0, -1}, {-1, 0, -1}, {0, -1, -1}, {0, 1, -2}, {0, 1, 3},
            {0, 1, 0}, {0, 1, 1}};
        for (int[] b : bad) {
            CHECK.due("ring bad", x.ring(b[0], b[1], b[2]), DebtCoats.BAD);
        }
        CHECK.due("one has no coat", x.ring(0, 2, -1), DebtCoats.NOT);
        CHECK.due("the third has no coat", x.ring(0, 1, 2), DebtCoats.NOT);
        CHECK.due("all alike is not good", x.ring(0, 1, -1), DebtCoats.NONE);
        x.tax(0, 0, 5);
        x.tax(0, 1, 1);
        x.tax(1, 1, 2);
        x.tax(1, 0, 2);
        CHECK.due("one is not better off", x.ring(0, 1, -1), DebtCoats.NONE);
        x.tax(1, 0, 1);
        CHECK.due("good", x.ring(1, 0, -1), 5);
        int[] got = {1, 20, 3, 4};
        int[] given = {0, 10, 1, 2};
        for (int what = 0; what < 4; what++) {
            CHECK.due("what he got " + what, x.coat(0, 1, what), got[what]);
            CHECK.due("what the other got " + what, x.coat(1, 0, what), given[what]);
        }
        CHECK.due("at the skin all is as it was", x.coat(0, 0, 0), 4);
        CHECK.due("once is enough", x.ring(0, 1, -1), DebtCoats.NONE);
    }

    private static DebtCoats threeWhoMayRing() {
        DebtCoats x = new DebtCoats();
        for (int p = 0; p < 3; p++) {
            x.person(0, 0, 60);
            x.tax(p, p, 9);
        }
        Checks.wear(x, 0, "a1");
        Checks.wear(x, 1, "b2");
        Checks.wear(x, 2, "c3");
        return x;
    }

    private static void promise15Threes() {
        DebtCoats x = threeWhoMayRing();
        x.tax(0, 1, 3);
        x.tax(1, 2, 2);
        x.tax(2, 0, 1);
        CHECK.due("a to b to c to a", x.ring(0, 1, 2), 27);
        CHECK.due("the first has the third's", x.coat(0, 0, 1), 3);
        CHECK.due("the second has the first's", x.coat(1, 0, 1), 1);
        CHECK.due("the third has the second's", x.coat(2, 0, 1), 2);
        DebtCoats y = threeWhoMayRing();
        y.tax(0, 1, 3);
        y.tax(1, 2, 2);
        y.tax(2, 0, 1);
        CHECK.due("the other way round", y.ring(1, 0, 2), 21);
        CHECK.due("there the first has the second's", y.coat(0, 0, 1), 2);
        CHECK.due("there the third has the first's", y.coat(2, 0, 1), 1);
        CHECK.due("there the second has the third's", y.coat(1, 0, 1), 3);
        DebtCoats z = threeWhoMayRing();
        z.tax(2, 1, 9);
        CHECK.due("one of three is not better off", z.ring(0, 1, 2), DebtCoats.NONE);
        CHECK.due("nothing is changed", z.coat(0, 0, 1), 1);
    }

    private static void promise16Rings() {
        DebtCoats x = threeWhoMayRing();
        CHECK.due("rings -2", x.rings(-2), DebtCoats.BAD);
        CHECK.due("rings 3", x.rings(3), DebtCoats.BAD);
        CHECK.due("three save most", x.rings(-1), 27);
        dueRow(x, "the first row of three", 0, 1, 2);
        x.tax(1, 0, 1);
        CHECK.due("the other way saves as before", x.rings(-1), 27);
        dueRow(x, "the least number first", 0, 2, 1);
        x.tax(2, 0, 8);
        x.tax(2, 1, 8);
        x.tax(0, 2, 8);
        x.tax(1, 2, 8);
        x.tax(1, 0, 0);
        CHECK.due("two save most", x.rings(-1), 18);
        dueRow(x, "two", 0, 1, DebtCoats.NONE);
        DebtCoats y = new DebtCoats();
        for (int p = 0; p < 4; p++) {
            y.person(0, 0, 60);
            y.tax(p, p, 3);
            Checks.wear(y, p, new String(new char[] {(char) ('a' + p), '1'}));
        }
        y.tax(0, 1, 3);
        y.tax(1, 0, 3);
        y.tax(0, 2, 3);
        y.tax(2, 0, 3);
        y.tax(0, 3, 3);
        y.tax(3, 0, 3);
        y.tax(3, 1, 1);
        y.tax(1, 3, 1);
        y.tax(2, 1, 2);
        y.tax(3, 2, 1);
        y.tax(1, 2, 1);
        y.tax(2, 3, 1);
        // 1, 2, 3 and 1, 3, 2 save 5 and 6; two of 2, 3 save 4.
        CHECK.due("three of four", y.rings(-1), 6);
        dueRow(y, "three of four", 1, 3, 2);
        y.tax(2, 3, 0);
        y.tax(3, 2, 0);
        y.tax(1, 2, 2);
        y.tax(2, 1, 3);
        CHECK.due("fewest people of like ones", y.rings(-1), 6);
        dueRow(y, "fewest people of like ones", 2, 3, DebtCoats.NONE);
        DebtCoats z = threeWhoMayRing();
        z.tax(0, 1, 9);
        z.tax(1, 0, 9);
        z.tax(0, 2, 9);
        z.tax(1, 2, 9);
        CHECK.due("no good one", z.rings(-1), DebtCoats.NONE);
        dueRow(z, "no good one", DebtCoats.NONE, DebtCoats.NONE, DebtCoats.NONE);
    }

    private static void dueRow(DebtCoats x, String what, int first, int second, int third) {
        CHECK.due(what + ", 0", x.rings(0), first);
        CHECK.due(what + ", 1", x.rings(1), second);
        CHECK.due(what + ", 2", x.rings(2), third);
    }

    private static void promise17Owed() {
        DebtCoats x = new DebtCoats();
        x.person(0, 0, 60);
        x.person(0, 0, 60);
        Checks.wear(x, 0, "a1;b20;a300");
        Checks.wear(x, 1, "b4000;a5");
        CHECK.due("owed to a", x.owed(0), 306);
        CHECK.due("owed to b", x.owed(1), 4020);
        CHECK.due("owed to e", x.owed(4), 0);
        CHECK.due("owed to 5", x.owed(5), DebtCoats.BAD);
        CHECK.due("owed to -1", x.owed(-1), DebtCoats.BAD);
        DebtCoats y = new DebtCoats();
        for (int p = 0; p < 2; p++) {
            y.person(0, 0, 60);
            for (int c = 0; c < 8; c++) {
                y.take(p, 3, 9999, 20, 1);
            }
        }
        y.nights(60);
        CHECK.due("amounts of one", y.of(0, 5), 8 * 999999);
        CHECK.due("9999999 at most", y.owed(3), 9999999);
        Checks.wear(y, 1, "d9;a1");
        y.take(1, 3, 9999, 0, 1);
        CHECK.due("less than that", y.owed(3), 8 * 999999 + 9 + 9999);
        Checks.wear(y, 0, "d9999r20;d9999r20;d9999r20;d9999r20;d9999r20");
        Checks.wear(y, 1, "d9999r20;d9999r20;d9999r20;d9999r20;d9999r20");
        y.nights(60);
        CHECK.due("ten of 999999", y.owed(3), 9999990);
        Checks.wear(y, 1, "d9999r20;d9999r20;d9999r20;d9999r20;d9999r20");
        y.person(0, 0, 60);
        y.nights(60);
        y.take(2, 3, 9, 0, 1);
        CHECK.due("just 9999999", y.owed(3), 9999999);
        y.take(2, 3, 1, 0, 1);
        CHECK.due("one more", y.owed(3), 9999999);
        CHECK.due("another is owed nothing", y.owed(2), 0);
    }
}
