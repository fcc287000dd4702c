import java.lang.reflect.Method;
import java.util.ArrayList;
import java.util.List;

/**
 * "What is refused changes nothing, but as told", and "of several the first that a call names": each call is made on an
 * object of its own, of which all is then asked and compared with one on which the call was not made.
 */
public final class RefusedTest {
    private static final Checks CHECK = new Checks("RefusedTest");
    private static final int BAD = DebtCoats.BAD;
    private static final int NOT = DebtCoats.NOT;
    private static final int FULL = DebtCoats.FULL;
    private static final int NONE = DebtCoats.NONE;
    private static final int NULL = DebtCoats.NULL;
    private static final int CAST = DebtCoats.CAST;
    private static final int INDEX = DebtCoats.INDEX;
    private static final int SIZE = DebtCoats.SIZE;
    private static final int LEAST = Integer.MIN_VALUE;
    private static final int MOST = Integer.MAX_VALUE;

    private static boolean isFull;
    private static List<Integer> untouched;

    public static void main(String[] args) throws ReflectiveOperationException {
        isFull = false;
        untouched = allOf(made());
        refusedOfPeople();
        refusedOfNights();
        refusedOfPlans();
        refusedOfSheets();
        questionsChangeNothing();
        isFull = true;
        untouched = allOf(made());
        refusedWhenFull();
        CHECK.end();
    }

    /**
     * People 0 to 3 (the last unclad, 1 fallen), day 40, a text on the tape, sheets 0 (ints), 1 (bytes), 2 (no item),
     * nothing as sheet 3, an image of day 30; if full: five people, eight coats, wares, cuts, the last day, 80 bytes.
     */
    private static DebtCoats made() {
        DebtCoats x = new DebtCoats();
        x.person(100, 3, 60);
        x.person(50, 1, 5);
        x.person(0, 9, 30);
        x.person(7, 0, 60);
        Checks.wear(x, 0, "a10r3;b20t2;c300r1t3;d40");
        Checks.wear(x, 1, "b9t5;a8");
        Checks.wear(x, 2, "e70;c60");
        x.tax(0, 3, 2);
        x.tax(0, 2, 1);
        x.tax(2, 2, 3);
        x.heat(1, 5);
        x.heat(11, 40);
        x.ware(5, 1);
        x.ware(6, 2);
        x.rule(1, 2);
        x.nights(30);
        x.image();
        x.nights(10);
        x.cut(0, 1);
        Checks.tell(x, 0, 2, 40, 0, 2, 41, 2, 1, 99);
        Checks.tell(x, 1, 0, 40, 2, 1, 127, 0, 2);
        x.sheet(2, 1, 0);
        Checks.write(x, "c5r6t7");
        if (isFull) {
            fill(x);
        }
        return x;
    }

    private static void fill(DebtCoats x) {
        x.person(1, 1, 1);
        for (int c = 3; c < 8; c++) {
            x.take(0, 4, 11, 2, 1);
        }
        for (int w = 2; w < 8; w++) {
            x.ware(w, w);
        }
        x.cut(0, 1);
        x.take(0, 4, 11, 2, 1);
        for (int k = 0; k < 5; k++) {
            x.nights(60);
        }
        x.nights(19);
        Checks.write(x, " ".repeat(72));
        x.type(' ', 1);
    }

    /** Everything that can be asked, the image's part too; the object is spent then. */
    private static List<Integer> allOf(DebtCoats x) {
        List<Integer> all = new ArrayList<>();
        askSheets(x, all);
        askWorld(x, all);
        all.add(x.type('x', 1));
        all.add(x.coats(0));
        all.add(x.restore());
        askWorld(x, all);
        for (int sheet = 0; sheet < 4; sheet++) {
            all.add(x.drop(sheet));
        }
        return all;
    }

    private static void askSheets(DebtCoats x, List<Integer> all) {
        for (int sheet = 0; sheet < 4; sheet++) {
            for (int lane = 0; lane < 3; lane++) {
                for (int i = 0; i < 5; i++) {
                    all.add(x.judged(sheet, lane, i, 1));
                }
                all.add(x.judged(sheet, lane, 0, 2));
            }
        }
    }

    private static void askWorld(DebtCoats x, List<Integer> all) {
        for (int what = 0; what <= 5; what++) {
            all.add(x.count(what));
        }
        for (int p = 0; p < 5; p++) {
            for (int what = 0; what <= 6; what++) {
                all.add(x.of(p, what));
            }
            for (int what = 0; what <= 3; what++) {
                all.add(x.coat(p, 0, what));
                all.add(x.coat(p, x.of(p, 3) - 1, what));
            }
            all.add(x.bears(p));
            all.add(x.free(p, 0));
            all.add(x.free(p, 1));
        }
        for (int lender = 0; lender < 5; lender++) {
            all.add(x.owed(lender));
            all.add(x.tax(0, lender, 0));
            all.add(x.tax(2, lender, 0));
        }
        for (int month = 0; month < 12; month++) {
            all.add(x.heat(month, 0));
        }
        all.add(x.rule(0, 0));
        all.add(x.rule(1, 0));
        all.add(x.under(0, 1, 5, 1));
        all.add(x.under(1, 3, 11, 1));
    }

    private static void refused(int want, String name, long... arguments) throws ReflectiveOperationException {
        DebtCoats x = made();
        StringBuilder call = new StringBuilder(name);
        for (long a : arguments) {
            call.append(' ').append(a);
        }
        CHECK.due(call.toString(), ask(x, name, arguments), want);
        CHECK.holds(call + " changes nothing", allOf(x).equals(untouched));
    }

    private static int ask(DebtCoats x, String name, long... arguments) throws ReflectiveOperationException {
        for (Method m : DebtCoats.class.getMethods()) {
            if (m.getName().equals(name) && m.getDeclaringClass() == DebtCoats.class) {
                Object[] given = new Object[arguments.length];
                for (int k = 0; k < given.length; k++) {
                    boolean isLong = m.getParameterTypes()[k] == long.class;
                    given[k] = isLong ? (Object) arguments[k] : (Object) (int) arguments[k];
                }
                return (Integer) m.invoke(x, given);
            }
        }
        throw new IllegalArgumentException(name);
    }

    private static void refusedOfPeople() throws ReflectiveOperationException {
        refused(BAD, "person", -1, 0, 1);
        refused(BAD, "person", 10000, 0, 1);
        refused(BAD, "person", 0, -1, 1);
        refused(BAD, "person", 0, 100, 1);
        refused(BAD, "person", 0, 0, 0);
        refused(BAD, "person", 0, 0, 61);
        refused(BAD, "person", LEAST, MOST, LEAST);
        refused(BAD, "of", 4, 0);
        refused(BAD, "of", -1, 0);
        refused(BAD, "of", 0, 7);
        refused(BAD, "of", 0, -1);
        refused(BAD, "coat", 4, 0, 0);
        refused(BAD, "coat", 3, 0, 0);
        refused(BAD, "coat", 0, 3, 0);
        refused(BAD, "coat", 0, -1, 0);
        refused(BAD, "coat", 0, 0, 4);
        refused(BAD, "tax", 4, 0, 1);
        refused(BAD, "tax", -1, 0, 1);
        refused(BAD, "tax", 0, 5, 1);
        refused(BAD, "tax", 0, -1, 1);
        refused(BAD, "tax", 0, 0, 10);
        refused(BAD, "tax", 0, 0, -1);
        refused(BAD, "heat", 12, 1);
        refused(BAD, "heat", -1, 1);
        refused(BAD, "heat", 0, 41);
        refused(BAD, "heat", 0, -1);
        refused(BAD, "rule", 0, 3);
        refused(BAD, "rule", 0, -1);
        refused(BAD, "rule", 1, 10);
        refused(BAD, "rule", 1, -1);
        refused(BAD, "rule", 2, 0);
        refused(BAD, "rule", -1, 0);
        refused(BAD, "type", 'a', 0);
        refused(BAD, "type", 'a', -1);
        refused(BAD, "type", 0x6161616161616161L, 9);
        refused(BAD, "type", 31, 1);
        refused(BAD, "type", 127, 1);
        refused(BAD, "type", 0x1F61616161616161L, 8);
        refused(BAD, "type", 0xE161616161616161L, 8);
        refused(BAD, "coats", 4);
        refused(BAD, "coats", -1);
        refused(BAD, "count", 6);
        refused(BAD, "count", -1);
    }

    private static void refusedOfNights() throws ReflectiveOperationException {
        refused(BAD, "take", 4, 0, 1, 0, 1);
        refused(BAD, "take", 0, 5, 1, 0, 1);
        refused(BAD, "take", 0, -1, 1, 0, 1);
        refused(BAD, "take", 0, 0, 0, 0, 1);
        refused(BAD, "take", 0, 0, 10000, 0, 1);
        refused(BAD, "take", 0, 0, 1, 21, 1);
        refused(BAD, "take", 0, 0, 1, -1, 1);
        refused(BAD, "take", 0, 0, 1, 0, 10);
        refused(BAD, "take", 0, 0, 1, 0, 0);
        refused(BAD, "pay", 4, 0);
        refused(BAD, "pay", 0, 3);
        refused(BAD, "pay", 0, -1);
        refused(BAD, "pay", 3, 0);
        refused(NOT, "pay", 0, 0);
        refused(NOT, "pay", 0, 1);
        refused(NONE, "pay", 1, 1);
        refused(NOT, "pay", 1, 0);
        refused(BAD, "nights", 0);
        refused(BAD, "nights", -1);
        refused(BAD, "nights", 61);
        refused(BAD, "nights", MOST);
        refused(BAD, "cut", 4, 1);
        refused(BAD, "cut", 0, 3);
        refused(BAD, "cut", 0, -1);
        refused(BAD, "cut", 3, 0);
        refused(NOT, "cut", 0, 0);
        refused(NOT, "cut", 0, 2);
        refused(BAD, "ring", 0, 0, -1);
        refused(BAD, "ring", 3, 3, -1);
        refused(BAD, "ring", 0, 4, -1);
        refused(BAD, "ring", 4, 0, -1);
        refused(BAD, "ring", -1, 0, -1);
        refused(BAD, "ring", 0, -1, -1);
        refused(BAD, "ring", 0, 1, -2);
        refused(BAD, "ring", 0, 1, 4);
        refused(BAD, "ring", 3, 1, 3);
        refused(BAD, "ring", 1, 3, 3);
        refused(NOT, "ring", 0, 3, -1);
        refused(NOT, "ring", 3, 0, -1);
        refused(NOT, "ring", 0, 1, 3);
        refused(NOT, "ring", 0, 3, 1);
        refused(NOT, "ring", 3, 0, 1);
        refused(NONE, "ring", 0, 1, -1);
        refused(NONE, "ring", 0, 1, 2);
        refused(BAD, "rings", 3);
        refused(BAD, "rings", -2);
        refused(NONE, "rings", 2);
        refused(BAD, "owed", 5);
        refused(BAD, "owed", -1);
    }

    private static void refusedOfPlans() throws ReflectiveOperationException {
        refused(BAD, "free", 4, 0);
        refused(BAD, "free", -1, 0);
        refused(BAD, "free", 0, 8);
        refused(BAD, "free", 0, -1);
        refused(NONE, "free", 0, 5);
        refused(NONE, "free", 3, 2);
        refused(BAD, "saves", 4, 1);
        refused(BAD, "saves", 0, 3);
        refused(BAD, "saves", 0, -1);
        refused(BAD, "saves", 3, 0);
        refused(NOT, "saves", 0, 0);
        refused(NOT, "saves", 0, 2);
        refused(BAD, "bears", 4);
        refused(BAD, "bears", -1);
        refused(NONE, "bears", 3);
        refused(BAD, "ware", 0, 1);
        refused(BAD, "ware", 10000, 1);
        refused(BAD, "ware", 1, 0);
        refused(BAD, "ware", 1, 10);
        refused(BAD, "under", 2, 1, 1, 0);
        refused(BAD, "under", -1, 1, 1, 0);
        refused(BAD, "under", 0, 0, 1, 1);
        refused(BAD, "under", 0, 100, 1, 1);
        refused(BAD, "under", 0, 1, 0, 1);
        refused(BAD, "under", 0, 1, 100000, 1);
        refused(BAD, "under", 0, 1, 5, 2);
        refused(BAD, "under", 0, 1, 5, -1);
        refused(NONE, "under", 0, 99, 99999, 1);
    }

    private static void refusedOfSheets() throws ReflectiveOperationException {
        refused(BAD, "judged", 4, 2, 0, 1);
        refused(BAD, "judged", -1, 2, 0, 1);
        refused(BAD, "judged", 0, 3, 0, 1);
        refused(BAD, "judged", 0, -1, 0, 1);
        refused(BAD, "judged", 0, 2, 0, 0);
        refused(BAD, "judged", 3, 2, 0, 9);
        refused(NULL, "judged", 3, 2, 99, 1);
        refused(CAST, "judged", 0, 1, 99, 1);
        refused(INDEX, "judged", 0, 2, 5, 1);
        refused(INDEX, "judged", 0, 2, -1, 1);
        refused(INDEX, "judged", 0, 2, 2, 2);
        refused(INDEX, "judged", 2, 1, 0, 1);
        refused(INDEX, "judged", 0, 2, MOST, 8);
        refused(BAD, "sheet", 4, 0, 1);
        refused(BAD, "sheet", -1, 0, 1);
        refused(BAD, "sheet", 0, 3, 1);
        refused(BAD, "sheet", 0, -1, 1);
        refused(BAD, "sheet", 0, 0, 25);
        refused(BAD, "sheet", 0, 0, MOST);
        refused(BAD, "sheet", 4, 0, -1);
        refused(BAD, "sheet", 0, 3, -1);
        refused(SIZE, "sheet", 0, 0, -1);
        refused(SIZE, "sheet", 3, 2, LEAST);
        refused(BAD, "drop", 4);
        refused(BAD, "drop", -1);
        refused(NULL, "drop", 3);
        refused(BAD, "item", 4, 0, 0, 1);
        refused(BAD, "item", -1, 0, 0, 1);
        refused(BAD, "item", 3, 3, 0, 1);
        refused(BAD, "item", 0, -1, 0, 1);
        refused(NULL, "item", 3, 0, -1, 1);
        refused(CAST, "item", 0, 1, -1, 1);
        refused(CAST, "item", 2, 0, 0, 1);
        refused(INDEX, "item", 0, 2, 7, 1);
        refused(INDEX, "item", 0, 2, -1, 1);
        refused(INDEX, "item", 2, 1, 0, 1);
        refused(INDEX, "item", 1, 0, LEAST, 1);
        refused(BAD, "copy", 4, 0, 3, 0, 1);
        refused(BAD, "copy", 3, 0, 4, 0, 1);
        refused(BAD, "copy", -1, 0, 0, 0, 1);
        refused(BAD, "copy", 0, 0, -1, 0, 1);
        refused(NULL, "copy", 3, -1, 0, 0, 1);
        refused(NULL, "copy", 0, 0, 3, -1, 1);
        refused(NULL, "copy", 3, 0, 3, 0, -1);
        refused(CAST, "copy", 0, -1, 1, 0, 1);
        refused(CAST, "copy", 0, 0, 2, 0, 0);
        refused(INDEX, "copy", 0, 1, 0, 0, 7);
        refused(INDEX, "copy", 0, 0, 0, 1, 7);
        refused(INDEX, "copy", 0, -1, 0, 0, 1);
        refused(INDEX, "copy", 0, 0, 0, -1, 1);
        refused(INDEX, "copy", 0, 0, 0, 0, -1);
        refused(INDEX, "copy", 0, 8, 0, 0, 0);
        refused(INDEX, "copy", 0, 0, 0, 8, 0);
        refused(INDEX, "copy", 0, 1, 0, 1, MOST);
        refused(INDEX, "copy", 0, MOST, 0, MOST, MOST);
    }

    /** What is answered, and not refused, by calls that only ask. */
    private static void questionsChangeNothing() throws ReflectiveOperationException {
        DebtCoats x = made();
        String[] calls = {"of 0 0", "of 1 6", "coat 0 2 1", "count 3", "rings -1", "rings 0", "owed 2", "free 0 0",
            "free 0 4", "free 2 1", "saves 0 1", "bears 0", "under 0 1 5 0", "under 1 3 11 1", "judged 0 2 0 2",
            "judged 1 0 0 1", "copy 0 7 0 7 0"};
        for (String call : calls) {
            String[] parts = call.split(" ");
            long[] arguments = new long[parts.length - 1];
            for (int k = 0; k < arguments.length; k++) {
                arguments[k] = Long.parseLong(parts[k + 1]);
            }
            refused(ask(x, parts[0], arguments), parts[0], arguments);
        }
    }

    private static void refusedWhenFull() throws ReflectiveOperationException {
        refused(FULL, "person", 0, 0, 1);
        refused(BAD, "person", 0, 0, 0);
        refused(FULL, "type", 0x6161, 2);
        refused(FULL, "type", 0x2020202020202020L, 8);
        refused(BAD, "type", 0x6180, 2);
        refused(BAD, "type", 0x6161, 0);
        refused(BAD, "coats", 5);
        refused(FULL, "take", 0, 0, 1, 0, 1);
        refused(BAD, "take", 0, 0, 1, 0, 0);
        refused(FULL, "nights", 1);
        refused(FULL, "nights", 60);
        refused(BAD, "nights", 61);
        refused(NONE, "cut", 0, 1);
        refused(NOT, "cut", 0, 0);
        refused(NOT, "cut", 0, 7);
        refused(BAD, "cut", 0, 8);
        refused(FULL, "free", 0, 0);
        refused(FULL, "free", 0, 7);
        refused(BAD, "free", 0, 8);
        refused(FULL, "saves", 0, 1);
        refused(FULL, "saves", 0, 0);
        refused(FULL, "saves", 0, 7);
        refused(BAD, "saves", 0, 8);
        refused(NONE, "bears", 0);
        refused(FULL, "ware", 1, 1);
        refused(BAD, "ware", 1, 0);
    }
}
