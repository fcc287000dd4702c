/** Promises 18 to 24: what will be. */
public final class FutureTest {
    private static final Checks CHECK = new Checks("FutureTest");

    public static void main(String[] args) {
        promise18FreeByEachLaw();
        promise18BestOrder();
        promise18Edges();
        promise19Saves();
        promise20Bears();
        promise21Ware();
        promise22Under();
        promise23And24Image();
        promise23And24AllIsKept();
        promise23And24OfNobody();
        promise23And24Wares();
        CHECK.end();
    }

    private static DebtCoats one(int purse, int income, String text) {
        DebtCoats x = new DebtCoats();
        x.person(purse, income, 60);
        if (!text.isEmpty()) {
            Checks.wear(x, 0, text);
        }
        return x;
    }

    private static void dueFree(DebtCoats x, String what, int... want) {
        for (int k = 0; k < want.length; k++) {
            CHECK.due(what + ", free " + k, x.free(0, k), want[k]);
        }
    }

    private static void promise18FreeByEachLaw() {
        DebtCoats x = one(10, 10, "a40r5;b20");
        // b for 20 on day 1; a is 42 then, 44 46 48 50 52 54 with 10 20 30 40 50 60 in the purse.
        dueFree(x, "outermost", 7, 74, 1, 0, DebtCoats.NONE);
        x.rule(0, 1);
        // a is 42 44 46 48 with 20 30 40 50 in the purse; 2 are left, 12 22.
        dueFree(x, "innermost", 6, 68, 0, 1, DebtCoats.NONE);
    }

    private static void promise18BestOrder() {
        DebtCoats x = one(60, 10, "a10;b50r3;c50;d10");
        x.rule(0, 2);
        // b today has no interest; then whatever the order, so the first row.
        dueFree(x, "any but the innermost", 6, 120, 1, 2, 3, 0, DebtCoats.NONE, DebtCoats.NONE);
        x.rule(0, 0);
        // d, c today; b is 51 .. 56 with 10 .. 60 in the purse.
        dueFree(x, "outermost", 7, 126, 3, 2, 1, 0);
        DebtCoats y = one(0, 10, "a1;b30;c30");
        y.rule(0, 2);
        y.tax(0, 2, 5);
        dueFree(y, "the taxed one first", 10, 61, 2, 1, 0);
        DebtCoats z = one(20, 10, "a1;b20;c20r5");
        z.rule(0, 2);
        // b first is free on day 3 too, but pays 23 for c.
        dueFree(z, "least paid of like ones", 3, 41, 2, 1, 0);
    }

    private static void promise18Edges() {
        dueFree(one(0, 0, ""), "no coat", 0, 0, DebtCoats.NONE, DebtCoats.NONE, DebtCoats.NONE, DebtCoats.NONE,
            DebtCoats.NONE, DebtCoats.NONE, DebtCoats.BAD);
        dueFree(one(21, 0, "a1;b2;c3;d4;e5;a6"), "today", 0, 21, 5, 4, 3, 2, 1, 0, DebtCoats.BAD);
        dueFree(one(0, 1, "a360"), "on day 360", 360, 360, 0);
        dueFree(one(0, 1, "a361"), "on day 361", DebtCoats.NONE, DebtCoats.NONE, DebtCoats.NONE, DebtCoats.NONE);
        DebtCoats x = one(100, 0, "a1;b2;c3;d4;e5;a6");
        x.take(0, 0, 1, 0, 1);
        CHECK.due("seven", x.free(0, 0), DebtCoats.FULL);
        CHECK.due("seven, bad ahead of full", x.free(0, 8), DebtCoats.BAD);
        CHECK.due("free -1", x.free(0, -1), DebtCoats.BAD);
        CHECK.due("free person 1", x.free(1, 0), DebtCoats.BAD);
        DebtCoats y = one(0, 2, "a600t9");
        y.heat(1, 40);
        y.heat(0, 40);
        y.nights(60);
        y.nights(60);
        CHECK.due("fallen by heat", y.of(0, 6), DebtCoats.NONE);
        y.take(0, 0, 1, 0, 9);
        y.take(0, 0, 1, 0, 9);
        y.heat(4, 40);
        CHECK.due("heat does not count, nor the day", y.free(0, 0), 180);
        CHECK.due("nothing is paid by it", y.of(0, 3), 3);
    }

    private static void promise19Saves() {
        DebtCoats x = one(0, 10, "a100;b50;c20;d30");
        CHECK.due("innermost", x.saves(0, 0), DebtCoats.NOT);
        CHECK.due("b", x.saves(0, 1), 5);
        CHECK.due("c", x.saves(0, 2), 2);
        CHECK.due("outermost", x.saves(0, 3), DebtCoats.NOT);
        CHECK.due("coat 4", x.saves(0, 4), DebtCoats.BAD);
        CHECK.due("coat -1", x.saves(0, -1), DebtCoats.BAD);
        CHECK.due("person 1", x.saves(1, 1), DebtCoats.BAD);
        CHECK.due("nothing is cut", x.of(0, 3), 4);
        CHECK.due("no cut is made", x.count(4), 0);
        CHECK.due("never free without it", one(0, 1, "a1;b9999;c1").saves(0, 1), 359);
        CHECK.due("never free with it", one(0, 1, "a9999;b9999;c1").saves(0, 1), 0);
        DebtCoats y = one(0, 1, "a1;b9999;c1;d1;e1;a1");
        CHECK.due("six", y.saves(0, 1), 361 - 5);
        y.take(0, 0, 1, 0, 1);
        CHECK.due("seven", y.saves(0, 1), DebtCoats.FULL);
        CHECK.due("seven, full ahead of not", y.saves(0, 0), DebtCoats.FULL);
        CHECK.due("seven, bad ahead of full", y.saves(0, 7), DebtCoats.BAD);
    }

    private static void promise20Bears() {
        DebtCoats x = one(0, 0, "a1t9;b1t9");
        CHECK.due("no heat", x.bears(0), DebtCoats.NONE);
        x.heat(11, 40);
        x.heat(2, 43 - 3);
        x.person(0, 0, 19);
        CHECK.due("bears all", x.bears(1), DebtCoats.NONE);
        CHECK.due("60 less 40 bears 18", x.bears(0), DebtCoats.NONE);
        x.take(0, 0, 1, 0, 3);
        CHECK.due("21 from day 60 on", x.bears(0), 60);
        x.nights(59);
        CHECK.due("by the next night", x.bears(0), 1);
        x.nights(1);
        CHECK.due("again on each day", x.bears(0), 1);
        x.nights(30);
        CHECK.due("in the last month", x.bears(0), 330 - 90);
        for (int k = 0; k < 4; k++) {
            x.nights(60);
        }
        x.nights(28);
        CHECK.due("the last night", x.bears(0), 1);
        x.nights(1);
        CHECK.due("none is left", x.bears(0), DebtCoats.NONE);
        CHECK.due("bears person 2", x.bears(2), DebtCoats.BAD);
        CHECK.due("bears person -1", x.bears(-1), DebtCoats.BAD);
        DebtCoats y = new DebtCoats();
        y.person(0, 0, 5);
        Checks.wear(y, 0, "a1t6");
        CHECK.due("too thick from the first", y.bears(0), 1);
    }

    private static void promise21Ware() {
        DebtCoats x = new DebtCoats();
        int[][] bad = {{0, 1}, {10000, 1}, {1, 0}, {1, 10}, {-1, 1}, {1, -1}};
        for (int[] b : bad) {
            CHECK.due("ware bad", x.ware(b[0], b[1]), DebtCoats.BAD);
        }
        for (int w = 0; w < 8; w++) {
            CHECK.due("ware " + w, x.ware(9999, 9), w);
        }
        CHECK.due("ware full", x.ware(1, 1), DebtCoats.FULL);
        CHECK.due("ware bad ahead of full", x.ware(0, 1), DebtCoats.BAD);
        CHECK.due("all of them", x.under(7, 72, 8 * 9999, 1), 255);
    }

    private static void promise22Under() {
        DebtCoats x = new DebtCoats();
        CHECK.due("no ware", x.under(0, 1, 1, 0), DebtCoats.BAD);
        int[][] wares = {{5, 1}, {5, 1}, {5, 1}, {10, 2}};
        for (int[] w : wares) {
            x.ware(w[0], w[1]);
        }
        CHECK.due("sets with 0", x.under(0, 2, 10, 0), 2);
        CHECK.due("least with 0", x.under(0, 2, 10, 1), 3);
        CHECK.due("sets with 2", x.under(2, 2, 10, 0), 2);
        CHECK.due("least with 2", x.under(2, 2, 10, 1), 5);
        CHECK.due("sets with 3", x.under(3, 2, 10, 0), 1);
        CHECK.due("alone", x.under(3, 2, 10, 1), 8);
        CHECK.due("as thick, but more", x.under(3, 2, 11, 0), 0);
        CHECK.due("thicker, but as much", x.under(3, 3, 10, 1), DebtCoats.NONE);
        int[][] bad = {{-1, 1, 1, 0}, {4, 1, 1, 0}, {0, 0, 1, 0}, {0, 100, 1, 0}, {0, 1, 0, 0}, {0, 1, 100000, 0},
            {0, 1, 1, -1}, {0, 1, 1, 2}};
        for (int[] b : bad) {
            CHECK.due("under bad", x.under(b[0], b[1], b[2], b[3]), DebtCoats.BAD);
        }
        x.ware(1, 1);
        CHECK.due("the least that may be asked", x.under(4, 1, 1, 1), 16);
        CHECK.due("the most that may be asked", x.under(0, 99, 99999, 0), 0);
    }

    private static void promise23And24Image() {
        DebtCoats x = one(10, 1, "a5r20;b6");
        CHECK.due("none is kept", x.restore(), DebtCoats.NONE);
        CHECK.due("image", x.image(), 1);
        x.nights(10);
        Checks.write(x, "c7");
        x.sheet(0, 2, 3);
        CHECK.due("restore", x.restore(), 1);
        CHECK.due("the tape is not kept", x.coats(0), 1);
        CHECK.due("the sheets are not kept", x.drop(0), 3);
        x.pay(0, 0);
        CHECK.due("restore again", x.restore(), 1);
        CHECK.due("two coats again", x.of(0, 3), 2);
        x.nights(1);
        x.image();
        x.nights(1);
        x.restore();
        CHECK.due("the later image", x.count(1), 1);
    }

    private static void promise23And24AllIsKept() {
        DebtCoats x = one(100, 1, "a50r20t3;b6;c7");
        x.rule(1, 5);
        x.rule(0, 1);
        x.heat(4, 4);
        x.tax(0, 1, 6);
        x.ware(1, 2);
        x.cut(0, 1);
        x.person(0, 0, 1);
        Checks.wear(x, 1, "d9t9");
        x.nights(3);
        long[] before = all(x);
        x.image();
        x.rule(1, 9);
        x.rule(0, 2);
        x.heat(4, 40);
        x.tax(0, 1, 1);
        x.ware(7, 7);
        x.take(0, 4, 1, 1, 1);
        x.cut(0, 1);
        x.person(3, 3, 3);
        x.tax(2, 2, 2);
        x.take(2, 0, 1, 0, 1);
        x.take(1, 0, 1, 0, 1);
        x.nights(20);
        x.restore();
        long[] behind = all(x);
        for (int k = 0; k < before.length; k++) {
            CHECK.due("all is as it was, " + k, behind[k], before[k]);
        }
        x.person(3, 3, 3);
        CHECK.due("who comes anew has no tax", x.tax(2, 2, 0), 0);
        CHECK.due("who comes anew has no coat", x.of(2, 3), 0);
    }

    private static void promise23And24OfNobody() {
        DebtCoats x = new DebtCoats();
        CHECK.due("an image of nobody", x.image(), 1);
        x.person(9, 9, 1);
        Checks.wear(x, 0, "a1t9;b2");
        x.tax(0, 1, 4);
        x.heat(0, 4);
        x.rule(0, 2);
        x.nights(2);
        CHECK.due("fallen", x.count(3), 1);
        CHECK.due("restore nobody", x.restore(), 1);
        for (int what = 0; what <= 5; what++) {
            CHECK.due("nobody again, count " + what, x.count(what), 0);
        }
        CHECK.due("nothing is owed", x.owed(0), 0);
        CHECK.due("he is not there", x.of(0, 0), DebtCoats.BAD);
        CHECK.due("heat is 0 again", x.heat(0, 0), 0);
        CHECK.due("off is 0 again", x.rule(0, 0), 0);
        CHECK.due("another comes", x.person(1, 2, 3), 0);
        int[] want = {1, 2, 3, 0, 0, 0, DebtCoats.NONE};
        for (int what = 0; what < want.length; what++) {
            CHECK.due("the other is new, of " + what, x.of(0, what), want[what]);
        }
        CHECK.due("the other has no tax", x.tax(0, 1, 0), 0);
        CHECK.due("the tape is not of the image", x.type('a', 1), 1);
        x.image();
        CHECK.due("the tape stays", x.type('5', 1), 2);
        x.restore();
        CHECK.due("the tape stays behind restore", x.coats(0), 1);
        CHECK.due("five", x.owed(0), 5);
    }

    private static void promise23And24Wares() {
        DebtCoats x = new DebtCoats();
        x.ware(5, 1);
        x.image();
        x.ware(6, 2);
        x.restore();
        CHECK.due("one ware again", x.count(5), 1);
        CHECK.due("the second is not there", x.under(1, 2, 6, 0), DebtCoats.BAD);
        CHECK.due("another is the second", x.ware(7, 3), 1);
        CHECK.due("it is as told", x.under(1, 3, 7, 1), 2);
        x.image();
        DebtCoats y = new DebtCoats();
        y.image();
        y.ware(5, 1);
        y.restore();
        y.ware(8, 4);
        CHECK.due("the new first", y.under(0, 4, 8, 1), 1);
        y.image();
        y.restore();
        CHECK.due("kept and back", y.under(0, 4, 8, 1), 1);
        x.restore();
        x.ware(1, 1);
        x.restore();
        CHECK.due("both are kept", x.under(0, 4, 12, 1), 3);
    }

    /** All that can be asked, and what can be seen by changing it and back. */
    private static long[] all(DebtCoats x) {
        long[] row = new long[100];
        int k = 0;
        for (int what = 0; what <= 5; what++) {
            row[k++] = x.count(what);
        }
        for (int p = 0; p < 3; p++) {
            for (int what = 0; what <= 6; what++) {
                row[k++] = x.of(p, what);
            }
            for (int what = 0; what <= 3; what++) {
                row[k++] = x.coat(p, 0, what);
                row[k++] = x.coat(p, 1, what);
            }
        }
        for (int what = 0; what <= 1; what++) {
            int law = x.rule(what, 0);
            x.rule(what, law);
            row[k++] = law;
        }
        int heat = x.heat(4, 0);
        x.heat(4, heat);
        row[k++] = heat;
        int tax = x.tax(0, 1, 0);
        x.tax(0, 1, tax);
        row[k++] = tax;
        row[k++] = x.under(0, 2, 1, 1);
        return row;
    }
}
