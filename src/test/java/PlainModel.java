import java.util.ArrayList;
import java.util.List;

/**
 * The document told a second time, in the slowest and plainest way, for ModelTest to compare with.
 * It shares nothing with the class: lists of coats, every order tried whole, the text cut into words.
 */
public final class PlainModel {
    private static final int BAD = -1, NOT = -2, FULL = -3, NONE = -4, NULL = -11, CAST = -12, INDEX = -13, SIZE = -14;

    private static final class Coat {
        int lender, amount, rate, thick;

        Coat(int lender, int amount, int rate, int thick) {
            this.lender = lender;
            this.amount = amount;
            this.rate = rate;
            this.thick = thick;
        }
    }

    private static final class One {
        int purse, income, strength, fell = NONE;
        int[] tax = new int[5];
        List<Coat> worn = new ArrayList<>();

        One twin() {
            One o = new One();
            o.purse = purse;
            o.income = income;
            o.strength = strength;
            o.fell = fell;
            o.tax = tax.clone();
            for (Coat c : worn) {
                o.worn.add(new Coat(c.lender, c.amount, c.rate, c.thick));
            }
            return o;
        }

        int thick() {
            return worn.stream().mapToInt(c -> c.thick).sum();
        }

        void sleep() {
            purse += income;
            int taxes = 0;
            for (Coat c : worn) {
                c.amount = Math.min(999999, c.amount + c.amount * c.rate / 100);
                taxes += tax[c.lender];
            }
            purse = taxes > purse ? 0 : purse - taxes;
            purse = Math.min(999999, purse);
        }
    }

    private static final class State {
        List<One> people = new ArrayList<>();
        List<int[]> wares = new ArrayList<>();
        int[] heat = new int[12];
        int[] laws = new int[2];
        int day, cuts;

        State twin() {
            State s = new State();
            for (One o : people) {
                s.people.add(o.twin());
            }
            s.wares.addAll(wares);
            s.heat = heat.clone();
            s.laws = laws.clone();
            s.day = day;
            s.cuts = cuts;
            return s;
        }

        boolean has(int p) {
            return p >= 0 && p < people.size();
        }

        boolean has(int p, int c) {
            return has(p) && c >= 0 && c < people.get(p).worn.size();
        }

        boolean falls(One o, int onDay) {
            return o.thick() > Math.max(0, o.strength - heat[onDay / 30]);
        }

        void night() {
            for (One o : people) {
                o.sleep();
            }
            day++;
            for (One o : people) {
                if (falls(o, day)) {
                    o.purse = 0;
                    o.fell = o.fell == NONE ? day : o.fell;
                }
            }
        }

        int pay(int p, int c) {
            if (!has(p, c)) {
                return BAD;
            }
            One o = people.get(p);
            if (!lets(laws[0], c, o.worn.size())) {
                return NOT;
            }
            if (o.purse < o.worn.get(c).amount) {
                return NONE;
            }
            o.purse -= o.worn.remove(c).amount;
            return o.worn.size();
        }
    }

    private State s = new State();
    private State kept = null;
    private String tape = "";
    private final Object[] sheets = new Object[4];

    static boolean lets(int off, int c, int worn) {
        switch (off) {
            case 0:
                return c == worn - 1;
            case 1:
                return c == 0;
            default:
                return c > 0 || worn == 1;
        }
    }

    public int person(int purse, int income, int strength) {
        if (purse < 0 || purse > 9999 || income < 0 || income > 99 || strength < 1 || strength > 60) {
            return BAD;
        }
        if (s.people.size() == 5) {
            return FULL;
        }
        One o = new One();
        o.purse = purse;
        o.income = income;
        o.strength = strength;
        s.people.add(o);
        return s.people.size() - 1;
    }

    public int of(int p, int what) {
        if (!s.has(p) || what < 0 || what > 6) {
            return BAD;
        }
        One o = s.people.get(p);
        int sum = o.worn.stream().mapToInt(c -> c.amount).sum();
        return new int[] {o.purse, o.income, o.strength, o.worn.size(), o.thick(), sum, o.fell}[what];
    }

    public int coat(int p, int c, int what) {
        if (!s.has(p, c) || what < 0 || what > 3) {
            return BAD;
        }
        Coat k = s.people.get(p).worn.get(c);
        return new int[] {k.lender, k.amount, k.rate, k.thick}[what];
    }

    public int tax(int p, int lender, int v) {
        return !s.has(p) || lender < 0 ? BAD : put(s.people.get(p).tax, lender, v, 9);
    }

    public int heat(int month, int v) {
        return put(s.heat, month, v, 40);
    }

    public int rule(int what, int v) {
        return put(s.laws, what, v, what == 0 ? 2 : 9);
    }

    private static int put(int[] row, int i, int v, int most) {
        if (i < 0 || i >= row.length || v < 0 || v > most) {
            return BAD;
        }
        int was = row[i];
        row[i] = v;
        return was;
    }

    public int type(long w, int n) {
        if (n < 1 || n > 8) {
            return BAD;
        }
        StringBuilder text = new StringBuilder();
        for (int k = 0; k < n; k++) {
            int sign = (int) (w & 255);
            w >>>= 8;
            if (sign < 32 || sign > 126) {
                return BAD;
            }
            text.insert(0, (char) sign);
        }
        if (tape.length() + n > 80) {
            return FULL;
        }
        tape += text;
        return tape.length();
    }

    /** The text is cut into words (a number, any other sign), each with its place; a state waits for each kind. */
    public int coats(int p) {
        if (!s.has(p)) {
            return BAD;
        }
        String text = tape;
        tape = "";
        List<Coat> read = new ArrayList<>();
        String state = "lender";
        Coat now = null;
        int at = 0;
        while (true) {
            while (at < text.length() && text.charAt(at) == ' ') {
                at++;
            }
            if (at == text.length()) {
                break;
            }
            int end = at + 1;
            boolean isNumber = Character.isDigit(text.charAt(at));
            while (isNumber && !state.equals("digit") && end < text.length() && Character.isDigit(text.charAt(end))) {
                end++;
            }
            String word = text.substring(at, end);
            java.math.BigInteger big = isNumber ? new java.math.BigInteger(word) : null;
            int number = big == null ? -1 : big.min(java.math.BigInteger.valueOf(99999)).intValue();
            char sign = word.charAt(0);
            if (state.equals("lender") && sign >= 'a' && sign <= 'e') {
                now = new Coat(sign - 'a', 0, 0, 1);
                read.add(now);
                state = "amount";
            } else if (state.equals("amount") && number >= 1 && number <= 9999) {
                now.amount = number;
                state = "r";
            } else if (state.equals("r") && sign == 'r') {
                state = "rate";
            } else if (state.equals("rate") && number >= 0 && number <= 20) {
                now.rate = number;
                state = "t";
            } else if ((state.equals("r") || state.equals("t")) && sign == 't') {
                state = "digit";
            } else if (state.equals("digit") && number >= 1) {
                now.thick = number;
                state = "end";
            } else if ("r t end".contains(state) && sign == ';' && read.size() < 6) {
                state = "lender";
            } else {
                return -20 - at;
            }
            at = end;
        }
        if (!(state.equals("r") || state.equals("t") || state.equals("end"))) {
            return -20 - text.length();
        }
        s.people.get(p).worn = read;
        return read.size();
    }

    public int count(int what) {
        int worn = 0;
        int fallen = 0;
        for (int p = 0; p < s.people.size(); p++) {
            worn += s.people.get(p).worn.size();
            fallen += s.people.get(p).fell == NONE ? 0 : 1 << p;
        }
        int[] all = {s.people.size(), s.day, worn, fallen, s.cuts, s.wares.size()};
        return what < 0 || what > 5 ? BAD : all[what];
    }

    public int take(int p, int lender, int amount, int rate, int thick) {
        if (!s.has(p) || lender < 0 || lender > 4 || amount < 1 || amount > 9999 || rate < 0 || rate > 20
                || thick < 1 || thick > 9) {
            return BAD;
        }
        One o = s.people.get(p);
        if (o.worn.size() == 8) {
            return FULL;
        }
        o.worn.add(new Coat(lender, amount, rate, thick));
        o.purse = Math.min(999999, o.purse + amount);
        return o.worn.size();
    }

    public int pay(int p, int c) {
        return s.pay(p, c);
    }

    public int nights(int n) {
        if (n < 1 || n > 60) {
            return BAD;
        }
        if (s.day + n > 359) {
            return FULL;
        }
        for (int k = 0; k < n; k++) {
            s.night();
        }
        return s.day;
    }

    public int cut(int p, int c) {
        if (!s.has(p, c)) {
            return BAD;
        }
        List<Coat> worn = s.people.get(p).worn;
        if (c == 0 || c == worn.size() - 1) {
            return NOT;
        }
        if (s.laws[1] <= s.cuts) {
            return NONE;
        }
        s.cuts++;
        worn.remove(c);
        return worn.size();
    }

    private Coat outer(int p) {
        List<Coat> worn = s.people.get(p).worn;
        return worn.isEmpty() ? null : worn.get(worn.size() - 1);
    }

    /** What a row saves as a ring, each giving to the next; NONE if it is not good. */
    private int saved(int... row) {
        int sum = 0;
        for (int k = 0; k < row.length; k++) {
            int taker = row[(k + 1) % row.length];
            Coat gets = outer(row[k]);
            Coat gave = outer(taker);
            if (gets == null || gave == null) {
                return NONE;
            }
            int less = s.people.get(taker).tax[gave.lender] - s.people.get(taker).tax[gets.lender];
            if (less <= 0) {
                return NONE;
            }
            sum += less;
        }
        return sum;
    }

    public int ring(int a, int b, int c) {
        int[] row = c == -1 ? new int[] {a, b} : new int[] {a, b, c};
        for (int k = 0; k < row.length; k++) {
            if (!s.has(row[k]) || row[k] == row[(k + 1) % row.length]) {
                return BAD;
            }
        }
        for (int p : row) {
            if (outer(p) == null) {
                return NOT;
            }
        }
        int sum = saved(row);
        if (sum == NONE) {
            return NONE;
        }
        Coat[] given = new Coat[row.length];
        for (int k = 0; k < row.length; k++) {
            List<Coat> worn = s.people.get(row[k]).worn;
            given[k] = worn.remove(worn.size() - 1);
        }
        for (int k = 0; k < row.length; k++) {
            s.people.get(row[(k + 1) % row.length]).worn.add(given[k]);
        }
        return sum;
    }

    public int rings(int i) {
        if (i < -1 || i > 2) {
            return BAD;
        }
        int[] best = null;
        for (int a = 0; a < 5; a++) {
            for (int b = 0; b < 5; b++) {
                for (int c = -1; c < 5; c++) {
                    int[] row = c < 0 ? new int[] {a, b} : new int[] {a, b, c};
                    boolean isRow = a < b && (c < 0 || (a < c && b != c)) && s.has(a) && s.has(b) && (c < 0 || s.has(c));
                    if (isRow && saved(row) != NONE && (best == null || isAhead(row, best))) {
                        best = row;
                    }
                }
            }
        }
        if (best == null || i >= best.length) {
            return NONE;
        }
        return i < 0 ? saved(best) : best[i];
    }

    private boolean isAhead(int[] row, int[] other) {
        if (saved(row) != saved(other)) {
            return saved(row) > saved(other);
        }
        return row.length != other.length ? row.length < other.length : isFirst(row, other);
    }

    private static boolean isFirst(int[] row, int[] other) {
        for (int k = 0; k < row.length; k++) {
            if (row[k] != other[k]) {
                return row[k] < other[k];
            }
        }
        return false;
    }

    public int owed(int lender) {
        if (lender < 0 || lender > 4) {
            return BAD;
        }
        long sum = 0;
        for (One o : s.people) {
            sum += o.worn.stream().filter(c -> c.lender == lender).mapToLong(c -> c.amount).sum();
        }
        return (int) Math.min(9999999, sum);
    }

    /** Every order of n coats, those that the law does not let too. */
    private static void orders(int n, List<Integer> row, List<int[]> all) {
        if (row.size() == n) {
            all.add(row.stream().mapToInt(c -> c).toArray());
            return;
        }
        for (int c = 0; c < n; c++) {
            if (!row.contains(c)) {
                row.add(c);
                orders(n, row, all);
                row.remove(row.size() - 1);
            }
        }
    }

    /** Days, what is paid, by one order; null if the law does not let it or he is not free in 360 nights. */
    private static int[] follow(One one, int off, int[] order) {
        One o = one.twin();
        List<Coat> asNow = new ArrayList<>(o.worn);
        int paid = 0;
        int next = 0;
        for (int day = 0; day <= 360; day++) {
            while (next < order.length && asNow.get(order[next]).amount <= o.purse) {
                Coat c = asNow.get(order[next++]);
                int place = o.worn.indexOf(c);
                if (!lets(off, place, o.worn.size())) {
                    return null;
                }
                o.worn.remove(place);
                o.purse -= c.amount;
                paid += c.amount;
            }
            if (next == order.length) {
                return new int[] {day, paid};
            }
            o.sleep();
        }
        return null;
    }

    /** Days, what is paid, the order; null if there is none. */
    private int[] best(One o) {
        List<int[]> all = new ArrayList<>();
        orders(o.worn.size(), new ArrayList<>(), all);
        int[] best = null;
        for (int[] order : all) {
            int[] got = follow(o, s.laws[0], order);
            if (got != null && (best == null || got[0] < best[0] || (got[0] == best[0] && got[1] < best[1]))) {
                best = new int[2 + order.length];
                best[0] = got[0];
                best[1] = got[1];
                System.arraycopy(order, 0, best, 2, order.length);
            }
        }
        return best;
    }

    public int free(int p, int what) {
        if (!s.has(p) || what < 0 || what > 7) {
            return BAD;
        }
        if (s.people.get(p).worn.size() > 6) {
            return FULL;
        }
        int[] best = best(s.people.get(p));
        return best == null || what >= best.length ? NONE : best[what];
    }

    public int saves(int p, int c) {
        if (!s.has(p, c)) {
            return BAD;
        }
        One o = s.people.get(p);
        if (o.worn.size() > 6) {
            return FULL;
        }
        if (c == 0 || c == o.worn.size() - 1) {
            return NOT;
        }
        One other = o.twin();
        other.worn.remove(c);
        int[] with = best(o);
        int[] without = best(other);
        return (with == null ? 361 : with[0]) - (without == null ? 361 : without[0]);
    }

    public int bears(int p) {
        if (!s.has(p)) {
            return BAD;
        }
        for (int n = 1; s.day + n <= 359; n++) {
            if (s.falls(s.people.get(p), s.day + n)) {
                return n;
            }
        }
        return NONE;
    }

    public int ware(int amount, int thick) {
        if (amount < 1 || amount > 9999 || thick < 1 || thick > 9) {
            return BAD;
        }
        if (s.wares.size() == 8) {
            return FULL;
        }
        s.wares.add(new int[] {amount, thick});
        return s.wares.size() - 1;
    }

    public int under(int ware, int thick, int amount, int what) {
        if (ware < 0 || ware >= s.wares.size() || thick < 1 || thick > 99 || amount < 1 || amount > 99999
                || what < 0 || what > 1) {
            return BAD;
        }
        int many = 0;
        int least = NONE;
        for (int set = 0; set < 256; set++) {
            int t = 0;
            int a = 0;
            for (int w = 0; w < 8; w++) {
                if ((set & 1 << w) != 0) {
                    t += w < s.wares.size() ? s.wares.get(w)[1] : 1000;
                    a += w < s.wares.size() ? s.wares.get(w)[0] : 0;
                }
            }
            if ((set & 1 << ware) != 0 && t == thick && a == amount) {
                many++;
                least = least == NONE ? set : least;
            }
        }
        return what == 0 ? many : least;
    }

    public int image() {
        kept = s.twin();
        return 1;
    }

    public int restore() {
        if (kept == null) {
            return NONE;
        }
        s = kept.twin();
        return 1;
    }

    private static int laneOf(Object row) {
        return row instanceof byte[] ? 0 : row instanceof short[] ? 1 : 2;
    }

    private int faultOf(int sheet, int lane) {
        if (sheet < 0 || sheet > 3 || lane < 0 || lane > 2) {
            return BAD;
        }
        return sheets[sheet] == null ? NULL : laneOf(sheets[sheet]) != lane ? CAST : 0;
    }

    public int judged(int sheet, int lane, int i, int n) {
        if (n < 1 || n > 8 || faultOf(sheet, lane) != 0) {
            return n < 1 || n > 8 ? BAD : faultOf(sheet, lane);
        }
        Object row = sheets[sheet];
        if (i < 0 || (long) i + 3 * n > java.lang.reflect.Array.getLength(row)) {
            return INDEX;
        }
        State then = s.twin();
        for (int k = 0; k < n; k++) {
            int day = java.lang.reflect.Array.getInt(row, i + 3 * k);
            if (day < then.day || day > 359) {
                return k;
            }
            while (then.day < day) {
                then.night();
            }
            int p = java.lang.reflect.Array.getInt(row, i + 3 * k + 1);
            int c = java.lang.reflect.Array.getInt(row, i + 3 * k + 2);
            if (then.pay(p, c) < 0) {
                return k;
            }
        }
        return NONE;
    }

    public int sheet(int sheet, int lane, int n) {
        if (sheet < 0 || sheet > 3 || lane < 0 || lane > 2 || n > 24) {
            return BAD;
        }
        if (n < 0) {
            return SIZE;
        }
        sheets[sheet] = lane == 0 ? new byte[n] : lane == 1 ? new short[n] : new int[n];
        return n;
    }

    public int drop(int sheet) {
        if (sheet < 0 || sheet > 3) {
            return BAD;
        }
        if (sheets[sheet] == null) {
            return NULL;
        }
        int had = java.lang.reflect.Array.getLength(sheets[sheet]);
        sheets[sheet] = null;
        return had;
    }

    public int item(int sheet, int lane, int i, int v) {
        int fault = faultOf(sheet, lane);
        if (fault != 0) {
            return fault;
        }
        try {
            if (lane == 0) {
                ((byte[]) sheets[sheet])[i] = (byte) v;
            } else if (lane == 1) {
                ((short[]) sheets[sheet])[i] = (short) v;
            } else {
                ((int[]) sheets[sheet])[i] = v;
            }
        } catch (ArrayIndexOutOfBoundsException e) {
            return INDEX;
        }
        return 1;
    }

    public int copy(int from, int i, int to, int j, int n) {
        if (from < 0 || from > 3 || to < 0 || to > 3) {
            return BAD;
        }
        try {
            System.arraycopy(sheets[from], i, sheets[to], j, n);
        } catch (NullPointerException e) {
            return NULL;
        } catch (ArrayStoreException e) {
            return CAST;
        } catch (IndexOutOfBoundsException e) {
            return INDEX;
        }
        return n;
    }
}
