/** Counts the answers that are not the ones due, and ends a test by that count. */
final class Checks {
    private final String test;
    private int asked = 0;
    private int wrong = 0;

    Checks(String test) {
        this.test = test;
    }

    void due(String call, long got, long want) {
        asked++;
        if (got != want) {
            wrong++;
            System.out.println(test + ": " + call + " answered " + got + ", due is " + want);
        }
    }

    void holds(String what, boolean isSo) {
        due(what, isSo ? 1 : 0, 1);
    }

    void end() {
        System.out.println(test + ": " + asked + " asked, " + wrong + " wrong");
        if (wrong != 0 || asked == 0) {
            System.exit(1);
        }
    }

    /** Types a text, eight bytes a call, and has one wear it. */
    static int wear(DebtCoats x, int person, String text) {
        write(x, text);
        return x.coats(person);
    }

    static int write(DebtCoats x, String text) {
        int answer = 0;
        for (int from = 0; from < text.length(); from += 8) {
            String part = text.substring(from, Math.min(from + 8, text.length()));
            answer = x.type(bytesOf(part), part.length());
        }
        return answer;
    }

    /** A sheet holds a row of a lane with these items. */
    static void tell(DebtCoats x, int sheet, int lane, int... items) {
        x.sheet(sheet, lane, items.length);
        for (int k = 0; k < items.length; k++) {
            x.item(sheet, lane, k, items[k]);
        }
    }

    static long bytesOf(String part) {
        long w = 0;
        for (char sign : part.toCharArray()) {
            w = w << 8 | sign;
        }
        return w;
    }
}
