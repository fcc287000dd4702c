/** Promises 25 to 29: sheets. */
public final class SheetsTest {
    private static final Checks CHECK = new Checks("SheetsTest");

    public static void main(String[] args) {
        promise25Judged();
        promise25Refused();
        promise25Nights();
        promise25ChangesNothing();
        sheetsAreNothingAtFirst();
        eachSheetIsItsOwn();
        promise26Sheet();
        promise27Drop();
        promise28Item();
        promise29Copy();
        promise29Refused();
        CHECK.end();
    }

    private static int judge(DebtCoats x, int... items) {
        Checks.tell(x, 3, 2, items);
        return x.judged(3, 2, 0, items.length / 3);
    }

    private static void promise25Judged() {
        DebtCoats x = new DebtCoats();
        x.person(30, 10, 60);
        x.person(5, 0, 60);
        Checks.wear(x, 0, "a40r10;b20");
        Checks.wear(x, 1, "c5");
        x.nights(1);
        CHECK.due("all can be", judge(x, 1, 0, 1, 1, 1, 0, 9, 0, 0), DebtCoats.NONE);
        CHECK.due("the purse has not so much yet", judge(x, 1, 0, 1, 2, 0, 0), 1);
        CHECK.due("a day that is over", judge(x, 0, 0, 1), 0);
        CHECK.due("a day over by those told", judge(x, 2, 0, 1, 1, 1, 0), 1);
        CHECK.due("a day below 0", judge(x, -1, 0, 1), 0);
        CHECK.due("beyond 359", judge(x, 1, 0, 1, 360, 1, 0), 1);
        CHECK.due("day 359", judge(x, 1, 0, 1, 359, 1, 0), DebtCoats.NONE);
        CHECK.due("he is not there", judge(x, 1, 2, 0), 0);
        CHECK.due("he is below 0", judge(x, 1, -1, 0), 0);
        CHECK.due("the coat is not there", judge(x, 1, 0, 2), 0);
        CHECK.due("the coat is below 0", judge(x, 1, 0, -1), 0);
        CHECK.due("the coat is off", judge(x, 1, 1, 0, 1, 1, 0), 1);
        CHECK.due("off does not let it", judge(x, 9, 0, 0), 0);
        x.rule(0, 1);
        CHECK.due("by another law it does", judge(x, 4, 0, 0), DebtCoats.NONE);
        CHECK.due("coats as they are then", judge(x, 4, 0, 0, 9, 0, 0), DebtCoats.NONE);
        CHECK.due("nothing is changed: day", x.count(1), 1);
        CHECK.due("nothing is changed: coats", x.count(2), 3);
        CHECK.due("nothing is changed: purse", x.of(0, 0), 40);
    }

    private static void promise25Refused() {
        DebtCoats x = new DebtCoats();
        x.person(9, 9, 60);
        Checks.tell(x, 0, 1, 0, 0, 0, 0, 0, 0, 0);
        int[][] calls = {{-1, 1, 0, 1}, {4, 1, 0, 1}, {0, -1, 0, 1}, {0, 3, 0, 1}, {0, 1, 0, 0}, {0, 1, 0, 9},
            {1, 1, 0, 1}, {0, 0, 0, 1}, {0, 2, -1, 1}, {0, 1, -1, 1}, {0, 1, 5, 1}, {0, 1, 0, 3},
            {0, 1, Integer.MAX_VALUE, 1}, {0, 1, Integer.MIN_VALUE, 8}, {1, 2, -1, 0}};
        int[] want = {DebtCoats.BAD, DebtCoats.BAD, DebtCoats.BAD, DebtCoats.BAD, DebtCoats.BAD, DebtCoats.BAD,
            DebtCoats.NULL, DebtCoats.CAST, DebtCoats.CAST, DebtCoats.INDEX, DebtCoats.INDEX, DebtCoats.INDEX,
            DebtCoats.INDEX, DebtCoats.INDEX, DebtCoats.BAD};
        for (int k = 0; k < calls.length; k++) {
            int[] c = calls[k];
            CHECK.due("judged refused " + k, x.judged(c[0], c[1], c[2], c[3]), want[k]);
        }
        Checks.wear(x, 0, "a9");
        CHECK.due("from item 4 on", x.judged(0, 1, 4, 1), DebtCoats.NONE);
        Checks.tell(x, 1, 0, 0, 0, 0, 0, 0, 0, 0, 0, 0, 0, 0, 0, 0, 0, 0, 0, 0, 0, 0, 0, 0, 0, 0, 0);
        CHECK.due("eight payments", x.judged(1, 0, 0, 8), 1);
    }

    private static void promise25Nights() {
        DebtCoats x = new DebtCoats();
        x.person(100, 10, 20);
        Checks.wear(x, 0, "a60r1t9;b60t2");
        x.tax(0, 1, 2);
        x.heat(1, 10);
        CHECK.due("ahead of the heat", judge(x, 29, 0, 1, 29, 0, 0), DebtCoats.NONE);
        CHECK.due("in the heat his purse goes", judge(x, 30, 0, 1), 0);
        CHECK.due("one coat less is borne", judge(x, 29, 0, 1, 30, 0, 0), DebtCoats.NONE);
        CHECK.due("behind the heat the purse fills", judge(x, 66, 0, 1), 0);
        CHECK.due("by one night more", judge(x, 67, 0, 1), DebtCoats.NONE);
        CHECK.due("he is not fallen by it", x.count(3), 0);
    }

    private static void promise25ChangesNothing() {
        DebtCoats x = new DebtCoats();
        x.person(9, 1, 5);
        Checks.wear(x, 0, "a9r20t5;b9t1");
        x.image();
        Checks.tell(x, 0, 0, 0, 0, 1, 100, 0, 0);
        CHECK.due("judged to day 100", x.judged(0, 0, 0, 2), 1);
        CHECK.due("the day", x.count(1), 0);
        CHECK.due("who is fallen", x.count(3), 0);
        CHECK.due("the purse", x.of(0, 0), 9);
        CHECK.due("what is owed", x.of(0, 5), 18);
        x.nights(1);
        CHECK.due("the same again", x.judged(0, 0, 0, 2), 0);
        x.restore();
        CHECK.due("the image is no other", x.count(1), 0);
        CHECK.due("nor what is owed in it", x.of(0, 5), 18);
        CHECK.due("and once more", x.judged(0, 0, 0, 2), 1);
    }

    private static void sheetsAreNothingAtFirst() {
        DebtCoats x = new DebtCoats();
        for (int sheet = 0; sheet < 4; sheet++) {
            for (int lane = 0; lane < 3; lane++) {
                CHECK.due("item of nothing", x.item(sheet, lane, 0, 0), DebtCoats.NULL);
                CHECK.due("judged of nothing", x.judged(sheet, lane, 0, 1), DebtCoats.NULL);
            }
            CHECK.due("copy of nothing", x.copy(sheet, 0, sheet, 0, 0), DebtCoats.NULL);
            CHECK.due("drop of nothing", x.drop(sheet), DebtCoats.NULL);
        }
    }

    private static void eachSheetIsItsOwn() {
        DebtCoats x = new DebtCoats();
        for (int sheet = 0; sheet < 4; sheet++) {
            CHECK.due("a row of " + sheet, x.sheet(sheet, sheet % 3, sheet), sheet);
        }
        for (int sheet = 0; sheet < 4; sheet++) {
            for (int lane = 0; lane < 3; lane++) {
                int edge = lane == sheet % 3 ? DebtCoats.INDEX : DebtCoats.CAST;
                CHECK.due("behind the last of " + sheet, x.item(sheet, lane, sheet, 1), edge);
                if (sheet > 0) {
                    int last = lane == sheet % 3 ? 1 : DebtCoats.CAST;
                    CHECK.due("the last of " + sheet, x.item(sheet, lane, sheet - 1, 1), last);
                }
            }
        }
        for (int sheet = 0; sheet < 4; sheet++) {
            CHECK.due("drop " + sheet, x.drop(sheet), sheet);
        }
    }

    private static void promise26Sheet() {
        DebtCoats x = new DebtCoats();
        CHECK.due("sheet -1", x.sheet(-1, 0, 1), DebtCoats.BAD);
        CHECK.due("sheet 4", x.sheet(4, 0, 1), DebtCoats.BAD);
        CHECK.due("lane -1", x.sheet(0, -1, 1), DebtCoats.BAD);
        CHECK.due("lane 3", x.sheet(0, 3, 1), DebtCoats.BAD);
        CHECK.due("25 items", x.sheet(0, 0, 25), DebtCoats.BAD);
        CHECK.due("-1 items", x.sheet(0, 0, -1), DebtCoats.SIZE);
        CHECK.due("least items", x.sheet(0, 0, Integer.MIN_VALUE), DebtCoats.SIZE);
        CHECK.due("bad ahead of size", x.sheet(0, 3, -1), DebtCoats.BAD);
        CHECK.due("refused it holds nothing", x.drop(0), DebtCoats.NULL);
        CHECK.due("no items", x.sheet(0, 0, 0), 0);
        CHECK.due("no item", x.item(0, 0, 0, 1), DebtCoats.INDEX);
        CHECK.due("24 items", x.sheet(0, 2, 24), 24);
        CHECK.due("another lane", x.item(0, 0, 0, 1), DebtCoats.CAST);
        CHECK.due("the last item", x.item(0, 2, 23, 1), 1);
        x.person(9, 0, 60);
        Checks.wear(x, 0, "a9");
        x.item(0, 2, 0, 400);
        CHECK.due("what it held", x.judged(0, 2, 0, 1), 0);
        x.sheet(0, 2, 24);
        CHECK.due("a new row holds noughts", x.judged(0, 2, 0, 1), DebtCoats.NONE);
    }

    private static void promise27Drop() {
        DebtCoats x = new DebtCoats();
        CHECK.due("drop -1", x.drop(-1), DebtCoats.BAD);
        CHECK.due("drop 4", x.drop(4), DebtCoats.BAD);
        CHECK.due("drop nothing", x.drop(3), DebtCoats.NULL);
        x.sheet(3, 1, 7);
        x.sheet(2, 1, 0);
        CHECK.due("drop 7", x.drop(3), 7);
        CHECK.due("drop again", x.drop(3), DebtCoats.NULL);
        CHECK.due("drop 0", x.drop(2), 0);
        CHECK.due("item of nothing", x.item(3, 1, 0, 0), DebtCoats.NULL);
    }

    /** What an item holds can be seen by a payment of which it is the day. */
    private static int dayHeld(DebtCoats x, int lane, int v) {
        x.sheet(0, lane, 3);
        x.item(0, lane, 0, v);
        return x.judged(0, lane, 0, 1);
    }

    private static void promise28Item() {
        DebtCoats x = new DebtCoats();
        x.person(9, 0, 60);
        Checks.wear(x, 0, "a9");
        CHECK.due("bytes: 127", dayHeld(x, 0, 127), DebtCoats.NONE);
        CHECK.due("bytes: 128 is below 0", dayHeld(x, 0, 128), 0);
        CHECK.due("bytes: 256 is 0", dayHeld(x, 0, 256), DebtCoats.NONE);
        CHECK.due("shorts: 256 is 256", dayHeld(x, 1, 256 + 104), 0);
        CHECK.due("shorts: 65536 is 0", dayHeld(x, 1, 65536), DebtCoats.NONE);
        CHECK.due("shorts: 65535 is below 0", dayHeld(x, 1, 65535), 0);
        CHECK.due("ints: 65536", dayHeld(x, 2, 65536), 0);
        CHECK.due("ints: 359", dayHeld(x, 2, 359), DebtCoats.NONE);
        x.sheet(1, 1, 2);
        int[][] calls = {{-1, 1, 0}, {4, 1, 0}, {1, -1, 0}, {1, 3, 0}, {2, 1, 0}, {1, 0, 0}, {1, 2, 9}, {1, 1, -1},
            {1, 1, 2}, {1, 1, Integer.MAX_VALUE}, {2, 3, 0}, {1, 1, 1}};
        int[] want = {DebtCoats.BAD, DebtCoats.BAD, DebtCoats.BAD, DebtCoats.BAD, DebtCoats.NULL, DebtCoats.CAST,
            DebtCoats.CAST, DebtCoats.INDEX, DebtCoats.INDEX, DebtCoats.INDEX, DebtCoats.BAD, 1};
        for (int k = 0; k < calls.length; k++) {
            CHECK.due("item " + k, x.item(calls[k][0], calls[k][1], calls[k][2], 5), want[k]);
        }
    }

    private static void promise29Copy() {
        DebtCoats x = new DebtCoats();
        x.person(9, 0, 60);
        Checks.wear(x, 0, "a9");
        Checks.tell(x, 0, 2, 7, 0, 0, 400, 400, 400);
        Checks.tell(x, 1, 2, 400, 400, 400, 400);
        CHECK.due("copy to another", x.copy(0, 0, 1, 1, 3), 3);
        CHECK.due("copied", x.judged(1, 2, 1, 1), DebtCoats.NONE);
        CHECK.due("ahead of it all stays", x.judged(1, 2, 0, 1), 0);
        CHECK.due("to the same, on", x.copy(0, 0, 0, 1, 3), 3);
        CHECK.due("as if taken ahead, on", x.judged(0, 2, 1, 1), DebtCoats.NONE);
        CHECK.due("to the same, back", x.copy(0, 1, 0, 0, 5), 5);
        CHECK.due("as if taken ahead, back", x.judged(0, 2, 0, 1), DebtCoats.NONE);
        CHECK.due("none", x.copy(0, 6, 1, 4, 0), 0);
        CHECK.due("all", x.copy(1, 0, 0, 2, 4), 4);
    }

    private static void promise29Refused() {
        DebtCoats x = new DebtCoats();
        x.sheet(0, 1, 5);
        x.sheet(1, 1, 3);
        x.sheet(2, 2, 5);
        int[][] calls = {{-1, 0, 0, 0, 1}, {4, 0, 0, 0, 1}, {0, 0, -1, 0, 1}, {0, 0, 4, 0, 1}, {3, 0, 4, 0, 1},
            {3, 0, 0, 0, 1}, {0, 0, 3, 0, 1}, {3, 0, 2, 9, 1}, {0, 0, 2, 0, 1}, {0, 9, 2, 0, 1},
            {0, -1, 1, 0, 1}, {0, 0, 1, -1, 1}, {0, 0, 1, 0, -1}, {0, 3, 1, 0, 3}, {0, 0, 1, 1, 3}, {0, 0, 1, 0, 4},
            {0, 6, 1, 0, 0}, {0, 1, 1, 1, Integer.MAX_VALUE}, {0, Integer.MAX_VALUE, 1, 0, 1}};
        for (int k = 0; k < calls.length; k++) {
            int[] c = calls[k];
            int want = k < 5 ? DebtCoats.BAD : k < 8 ? DebtCoats.NULL : k < 10 ? DebtCoats.CAST : DebtCoats.INDEX;
            CHECK.due("copy refused " + k, x.copy(c[0], c[1], c[2], c[3], c[4]), want);
        }
    }
}
