/** Promises 1 to 10: people, coats. */
public final class PeopleTest {
    private static final Checks CHECK = new Checks("PeopleTest");

    public static void main(String[] args) {
        promise1NewObject();
        promise2Person();
        promise3Of();
        promise4Coat();
        promise5Tax();
        promise6Heat();
        promise7Rule();
        promise8Type();
        promise9Coats();
        promise9Faults();
        promise10Count();
        CHECK.end();
    }

    private static void promise1NewObject() {
        DebtCoats x = new DebtCoats();
        for (int what = 0; what <= 5; what++) {
            CHECK.due("new count " + what, x.count(what), 0);
        }
        for (int lender = 0; lender < 5; lender++) {
            CHECK.due("new owed " + lender, x.owed(lender), 0);
        }
        CHECK.due("new of", x.of(0, 0), DebtCoats.BAD);
        CHECK.due("new rings", x.rings(0), DebtCoats.NONE);
        CHECK.due("new restore", x.restore(), DebtCoats.NONE);
        for (int sheet = 0; sheet < 4; sheet++) {
            CHECK.due("new drop " + sheet, x.drop(sheet), DebtCoats.NULL);
        }
    }

    private static void promise2Person() {
        DebtCoats x = new DebtCoats();
        int[][] bad = {{-1, 0, 1}, {10000, 0, 1}, {0, -1, 1}, {0, 100, 1}, {0, 0, 0}, {0, 0, 61}};
        for (int[] b : bad) {
            CHECK.due("person bad", x.person(b[0], b[1], b[2]), DebtCoats.BAD);
        }
        CHECK.due("person least", x.person(0, 0, 1), 0);
        CHECK.due("person most", x.person(9999, 99, 60), 1);
        CHECK.due("person 2", x.person(1, 2, 3), 2);
        CHECK.due("person 3", x.person(1, 2, 3), 3);
        CHECK.due("person 4", x.person(1, 2, 3), 4);
        CHECK.due("person full", x.person(1, 2, 3), DebtCoats.FULL);
        CHECK.due("person bad ahead of full", x.person(1, 2, 0), DebtCoats.BAD);
        CHECK.due("people", x.count(0), 5);
    }

    private static void promise3Of() {
        DebtCoats x = new DebtCoats();
        x.person(7, 8, 9);
        Checks.wear(x, 0, "a100t3;b250r20t4");
        int[] want = {7, 8, 9, 2, 7, 350, DebtCoats.NONE};
        for (int what = 0; what < want.length; what++) {
            CHECK.due("of " + what, x.of(0, what), want[what]);
        }
        CHECK.due("of what -1", x.of(0, -1), DebtCoats.BAD);
        CHECK.due("of what 7", x.of(0, 7), DebtCoats.BAD);
        CHECK.due("of person 1", x.of(1, 0), DebtCoats.BAD);
        CHECK.due("of person -1", x.of(-1, 0), DebtCoats.BAD);
        x.heat(0, 3);
        x.nights(2);
        CHECK.due("fell on day 1", x.of(0, 6), 1);
        CHECK.due("purse of the fallen", x.of(0, 0), 0);
    }

    private static void promise4Coat() {
        DebtCoats x = new DebtCoats();
        x.person(0, 0, 1);
        CHECK.due("coat of the unclad", x.coat(0, 0, 0), DebtCoats.BAD);
        Checks.wear(x, 0, "c7;e9999r20t9");
        int[][] want = {{2, 7, 0, 1}, {4, 9999, 20, 9}};
        for (int c = 0; c < 2; c++) {
            for (int what = 0; what < 4; what++) {
                CHECK.due("coat " + c + " " + what, x.coat(0, c, what), want[c][what]);
            }
        }
        CHECK.due("coat what 4", x.coat(0, 0, 4), DebtCoats.BAD);
        CHECK.due("coat what -1", x.coat(0, 0, -1), DebtCoats.BAD);
        CHECK.due("coat 2", x.coat(0, 2, 0), DebtCoats.BAD);
        CHECK.due("coat -1", x.coat(0, -1, 0), DebtCoats.BAD);
        CHECK.due("coat person 1", x.coat(1, 0, 0), DebtCoats.BAD);
    }

    private static void promise5Tax() {
        DebtCoats x = new DebtCoats();
        x.person(100, 0, 60);
        x.person(100, 0, 60);
        CHECK.due("tax first", x.tax(0, 4, 9), 0);
        CHECK.due("tax again", x.tax(0, 4, 0), 9);
        CHECK.due("tax of the other", x.tax(1, 4, 3), 0);
        CHECK.due("tax -1", x.tax(0, 0, -1), DebtCoats.BAD);
        CHECK.due("tax 10", x.tax(0, 0, 10), DebtCoats.BAD);
        CHECK.due("tax lender 5", x.tax(0, 5, 1), DebtCoats.BAD);
        CHECK.due("tax lender -1", x.tax(0, -1, 1), DebtCoats.BAD);
        CHECK.due("tax person 2", x.tax(2, 0, 1), DebtCoats.BAD);
        CHECK.due("tax refused changes nothing", x.tax(0, 0, 0), 0);
    }

    private static void promise6Heat() {
        DebtCoats x = new DebtCoats();
        CHECK.due("heat first", x.heat(11, 40), 0);
        CHECK.due("heat again", x.heat(11, 0), 40);
        CHECK.due("heat -1", x.heat(0, -1), DebtCoats.BAD);
        CHECK.due("heat 41", x.heat(0, 41), DebtCoats.BAD);
        CHECK.due("month 12", x.heat(12, 0), DebtCoats.BAD);
        CHECK.due("month -1", x.heat(-1, 0), DebtCoats.BAD);
        CHECK.due("heat refused changes nothing", x.heat(0, 0), 0);
    }

    private static void promise7Rule() {
        DebtCoats x = new DebtCoats();
        CHECK.due("off first", x.rule(0, 2), 0);
        CHECK.due("off again", x.rule(0, 1), 2);
        CHECK.due("off 3", x.rule(0, 3), DebtCoats.BAD);
        CHECK.due("off -1", x.rule(0, -1), DebtCoats.BAD);
        CHECK.due("off stays", x.rule(0, 0), 1);
        CHECK.due("cuts first", x.rule(1, 9), 0);
        CHECK.due("cuts 10", x.rule(1, 10), DebtCoats.BAD);
        CHECK.due("cuts -1", x.rule(1, -1), DebtCoats.BAD);
        CHECK.due("cuts again", x.rule(1, 0), 9);
        CHECK.due("law 2", x.rule(2, 0), DebtCoats.BAD);
        CHECK.due("law -1", x.rule(-1, 0), DebtCoats.BAD);
    }

    private static void promise8Type() {
        DebtCoats x = new DebtCoats();
        x.person(0, 0, 1);
        CHECK.due("type 0 bytes", x.type(0x6131, 0), DebtCoats.BAD);
        CHECK.due("type 9 bytes", x.type(0x6131, 9), DebtCoats.BAD);
        CHECK.due("type 9 bytes that may stand", x.type(0x2020202020202020L, 9), DebtCoats.BAD);
        CHECK.due("byte 31", x.type(0x611F, 2), DebtCoats.BAD);
        CHECK.due("byte 127", x.type(0x7F61, 2), DebtCoats.BAD);
        CHECK.due("byte 255", x.type(-1L, 8), DebtCoats.BAD);
        CHECK.due("bytes above n are not looked at", x.type(0x0061L, 1), 1);
        CHECK.due("byte 126", x.type(0x207E, 2), 3);
        CHECK.due("fault at ~", x.coats(0), -22);
        CHECK.due("highest first", x.type(Checks.bytesOf("a12"), 3), 3);
        CHECK.due("coats", x.coats(0), 1);
        CHECK.due("amount", x.coat(0, 0, 1), 12);
        for (int k = 1; k <= 9; k++) {
            CHECK.due("type blanks", x.type(0x2020202020202020L, 8), 8 * k);
        }
        CHECK.due("type to 79", x.type(0x20202020202020L, 7), 79);
        CHECK.due("type beyond 80", x.type(0x6131, 2), DebtCoats.FULL);
        CHECK.due("bad ahead of full", x.type(0x6100, 2), DebtCoats.BAD);
        CHECK.due("type to 80", x.type(0x61, 1), 80);
        CHECK.due("type beyond 80 by one", x.type(0x61, 1), DebtCoats.FULL);
        CHECK.due("fault at the end", x.coats(0), -100);
    }

    private static void promise9Coats() {
        DebtCoats x = new DebtCoats();
        x.person(50, 0, 60);
        Checks.write(x, "b2");
        CHECK.due("coats of nobody", x.coats(1), DebtCoats.BAD);
        CHECK.due("the tape stays", x.coats(0), 1);
        CHECK.due("the tape is empty", x.coats(0), -20);
        CHECK.due("he wears what he wore", x.coat(0, 0, 0), 1);
        for (int k = 0; k < 7; k++) {
            x.take(0, 0, 1, 0, 1);
        }
        CHECK.due("six in place of eight", Checks.wear(x, 0, "a1;b2;c3;d4;e5;a6r20t9"), 6);
        CHECK.due("six are worn", x.of(0, 3), 6);
        CHECK.due("the first is at the skin", x.coat(0, 0, 1), 1);
        CHECK.due("rate of the sixth", x.coat(0, 5, 2), 20);
        CHECK.due("the purse stays", x.of(0, 0), 57);
        CHECK.due("blanks, zeros", Checks.wear(x, 0, "  d 0000000000000012 r 00 t 3 ; e1 "), 2);
        CHECK.due("amount with zeros", x.coat(0, 0, 1), 12);
        CHECK.due("thick behind a blank", x.coat(0, 0, 3), 3);
        CHECK.due("thick if not told", x.coat(0, 1, 3), 1);
        CHECK.due("rate if not told", x.coat(0, 1, 2), 0);
    }

    private static void promise9Faults() {
        String[] texts = {"", "   ", "a", "a ", "f1", "A1", "a0", "a 00", "a10000", "a99999999999999", "a4294967297",
            "a1 0", "a1b", "a1r", "a1r ", "a1r21", "a1 r 021", "a1r2 0", "a1r1r1", "a1t", "a1t0", "a1t10", "a1t1 1",
            "a1t1r1", "a1;", "a1; ", "a1;;", ";a1", "a1;f1", "a1;b0", "a1;b1;c1;d1;e1;a1;b1", "a1;b1;c1;d1;e1;a1 ;",
            "a-1", "a1t-1", "1", "a1.5"};
        int[] places = {0, 3, 1, 2, 0, 0, 1, 2, 1, 1, 1,
            3, 2, 3, 4, 3, 5, 5, 4, 3, 3, 4, 5,
            4, 3, 4, 3, 0, 3, 4, 17, 18,
            1, 3, 0, 2};
        for (int k = 0; k < texts.length; k++) {
            DebtCoats x = new DebtCoats();
            x.person(0, 0, 60);
            Checks.wear(x, 0, "e77");
            CHECK.due("'" + texts[k] + "'", Checks.wear(x, 0, texts[k]), -20 - places[k]);
            CHECK.due("worn behind a fault", x.of(0, 3), 1);
            CHECK.due("owed behind a fault", x.owed(4), 77);
            CHECK.due("the tape is empty behind a fault", x.type(0x61, 1), 1);
        }
    }

    private static void promise10Count() {
        DebtCoats x = new DebtCoats();
        x.person(0, 0, 3);
        x.person(0, 0, 60);
        x.person(0, 0, 2);
        Checks.wear(x, 0, "a1;b1t3;c1");
        Checks.wear(x, 2, "a1t9;b1");
        x.rule(1, 1);
        x.cut(0, 1);
        x.ware(1, 1);
        x.ware(1, 1);
        x.nights(4);
        int[] want = {3, 4, 4, 4, 1, 2};
        for (int what = 0; what < want.length; what++) {
            CHECK.due("count " + what, x.count(what), want[what]);
        }
        CHECK.due("count -1", x.count(-1), DebtCoats.BAD);
        CHECK.due("count 6", x.count(6), DebtCoats.BAD);
    }
}
