import java.math.BigInteger;
import java.util.ArrayList;
import java.util.Arrays;
import java.util.HashMap;
import java.util.List;
import java.util.Map;

/**
 * A second reading of the document, as plain as can be: fractions of unbounded integers, every PATH listed,
 * THE BEST by recursion over all that may come, SHEETS that are real rows in which the machine finds the FAULTS.
 * It shares no code and no way of working with the class.
 */
final class Model {
    private static final int BAD = -1, STATE = -2, FULL = -3, NONE = -4;
    private static final List<String> KINDS = List.of("plain", "hummer", "trembler", "tall", "twin", "paid");

    record Fraction(BigInteger above, BigInteger below) implements Comparable<Fraction> {
        static Fraction of(long a, long b) {
            return new Fraction(BigInteger.valueOf(a), BigInteger.valueOf(b)).lowest();
        }

        Fraction lowest() {
            BigInteger common = above.gcd(below);
            return new Fraction(above.divide(common), below.divide(common));
        }

        Fraction plus(Fraction o) {
            return new Fraction(above.multiply(o.below).add(o.above.multiply(below)), below.multiply(o.below)).lowest();
        }

        Fraction times(Fraction o) {
            return new Fraction(above.multiply(o.above), below.multiply(o.below)).lowest();
        }

        @Override
        public int compareTo(Fraction o) {
            return above.multiply(o.below).compareTo(o.above.multiply(below));
        }

        long part(int what) {
            return what == 0 ? above.longValueExact() : below.longValueExact();
        }
    }

    private static final Fraction ZERO = Fraction.of(0, 1), ONE = Fraction.of(1, 1);

    /** STRETCHES {noise, cold, bearer}, BEARERS {kind, step, warmth}, START. */
    private static final class Told {
        final List<int[]> stretches = new ArrayList<>();
        final List<int[]> bearers = new ArrayList<>();
        int start = 5;

        Told copy() {
            Told other = new Told();
            stretches.forEach(row -> other.stretches.add(row.clone()));
            bearers.forEach(row -> other.bearers.add(row.clone()));
            other.start = start;
            return other;
        }
    }

    private static final class Refusal extends Exception {
        private static final long serialVersionUID = 1L;
        final int fault;
        final int place;

        Refusal(int fault, int place) {
            this.fault = fault;
            this.place = place;
        }
    }

    private Told told = new Told();
    private final Told[] images = new Told[2];
    private String tape = "";
    private int fault;
    private int torn;
    private final List<int[]> learnt = new ArrayList<>();
    private final List<int[]> marked = new ArrayList<>();
    private final Object[] sheets = new Object[4];

    // ---- the text, what there is

    int feed(long v) {
        if (tape.length() + 8 > 320) {
            return FULL;
        }
        for (int n = 7; n >= 0; n--) {
            tape += (char) (v >> 8 * n & 255);
        }
        return tape.length();
    }

    int end(int n) {
        if (n < 0 || n > tape.length()) {
            return BAD;
        }
        int had = tape.length();
        tape = tape.substring(0, n);
        return had;
    }

    int text() {
        String text = tape;
        tape = "";
        try {
            Told fresh = new Told();
            int lines = new Parser(text, fresh).parse();
            told = fresh;
            learnt.clear();
            marked.clear();
            Arrays.fill(images, null);
            fault = 0;
            return lines;
        } catch (Refusal refusal) {
            fault = refusal.fault;
            return -10 - refusal.place;
        }
    }

    private static final class Parser {
        final String text;
        final Told into;
        int at = 0;
        int began = 0;

        Parser(String text, Told into) {
            this.text = text;
            this.into = into;
        }

        /** The next TOKEN, "" at the end. */
        String token() throws Refusal {
            while (at < text.length() && text.charAt(at) == ' ') {
                at++;
            }
            began = at;
            if (at == text.length()) {
                return "";
            }
            String rest = text.substring(at);
            String token = rest.replaceFirst("(?s)^([a-z]+|[0-9]+|;|.).*$", "$1");
            if (!token.matches("[a-z]+|[0-9]{1,2}|;")) {
                throw new Refusal(1, began);
            }
            at += token.length();
            return token;
        }

        int number(int low, int high) throws Refusal {
            String token = token();
            if (!token.matches("[0-9]+")) {
                throw new Refusal(2, began);
            }
            int v = Integer.parseInt(token);
            if (v < low || v > high) {
                throw new Refusal(3, began);
            }
            return v;
        }

        int parse() throws Refusal {
            int lines = 0;
            boolean started = false;
            Map<Integer, Integer> carries = new HashMap<>();
            for (String name = token(); !name.isEmpty(); name = token()) {
                if (name.equals("start")) {
                    if (started) {
                        throw new Refusal(4, began);
                    }
                    started = true;
                    into.start = number(1, 9);
                } else if (name.equals("stretch")) {
                    if (into.stretches.size() == 10) {
                        throw new Refusal(5, began);
                    }
                    into.stretches.add(new int[] {number(0, 9), number(0, 9), 0});
                } else if (name.equals("bearer")) {
                    if (into.bearers.size() == 6) {
                        throw new Refusal(5, began);
                    }
                    int kind = KINDS.indexOf(token());
                    if (kind < 0) {
                        throw new Refusal(2, began);
                    }
                    into.bearers.add(new int[] {kind, number(0, 9), number(0, 9)});
                } else if (name.equals("carry")) {
                    int i = number(0, 9);
                    if (carries.containsKey(i)) {
                        throw new Refusal(4, began);
                    }
                    carries.put(i, number(0, 5));
                } else {
                    throw new Refusal(2, began);
                }
                if (!token().equals(";")) {
                    throw new Refusal(2, began);
                }
                lines++;
            }
            for (Map.Entry<Integer, Integer> carry : carries.entrySet()) {
                if (carry.getKey() >= into.stretches.size() || carry.getValue() >= into.bearers.size()) {
                    throw new Refusal(6, text.length());
                }
                into.stretches.get(carry.getKey())[2] = carry.getValue();
            }
            if (!into.stretches.isEmpty() && into.bearers.isEmpty()) {
                throw new Refusal(7, text.length());
            }
            return lines;
        }
    }

    int fault() {
        return fault;
    }

    int rule(int what) {
        return what == 0 ? told.stretches.size() : what == 1 ? told.bearers.size() : what == 2 ? told.start : BAD;
    }

    private boolean isStretch(int i) {
        return i >= 0 && i < told.stretches.size();
    }

    private boolean isBearer(int b) {
        return b >= 0 && b < told.bearers.size();
    }

    private static boolean within(int v, int low, int high) {
        return v >= low && v <= high;
    }

    int stretch(int i, int what) {
        return isStretch(i) && within(what, 0, 2) ? told.stretches.get(i)[what] : BAD;
    }

    int bearer(int b, int what) {
        return isBearer(b) && within(what, 0, 2) ? told.bearers.get(b)[what] : BAD;
    }

    // ---- what is changed

    int start(int v) {
        if (!within(v, 1, 9)) {
            return BAD;
        }
        int was = told.start;
        told.start = v;
        return was;
    }

    private static int change(int[] row, int at, int v) {
        int was = row[at];
        row[at] = v;
        return was;
    }

    int noise(int i, int v) {
        return isStretch(i) && within(v, 0, 9) ? change(told.stretches.get(i), 0, v) : BAD;
    }

    int cold(int i, int v) {
        return isStretch(i) && within(v, 0, 9) ? change(told.stretches.get(i), 1, v) : BAD;
    }

    int step(int b, int v) {
        return isBearer(b) && within(v, 0, 9) ? change(told.bearers.get(b), 1, v) : BAD;
    }

    int warm(int b, int v) {
        return isBearer(b) && within(v, 0, 9) ? change(told.bearers.get(b), 2, v) : BAD;
    }

    int put(int i, int b) {
        return isStretch(i) && isBearer(b) ? change(told.stretches.get(i), 2, b) : BAD;
    }

    // ---- harm, odds

    private static int harm(Told told, int i, int a, int b) {
        int[] stretch = told.stretches.get(i);
        int[] taker = told.bearers.get(b);
        String kind = KINDS.get(taker[0]);
        int sum = stretch[0];
        if (kind.equals("hummer")) {
            sum -= 2;
        }
        if (kind.equals("tall")) {
            sum -= 1;
        }
        sum = sum < 0 ? 0 : sum;
        if (stretch[1] > taker[2]) {
            sum += stretch[1] - taker[2];
        }
        if (kind.equals("trembler") && stretch[1] > 4) {
            sum++;
        }
        if (a >= 0 && a != b) {
            int[] giver = told.bearers.get(a);
            int far = giver[1] > taker[1] ? giver[1] - taker[1] : taker[1] - giver[1];
            if (kind.equals("twin") && KINDS.get(giver[0]).equals("twin")) {
                far = 0;
            }
            sum += kind.equals("paid") ? far >> 1 : far;
        }
        return sum > 20 ? 20 : sum;
    }

    private boolean canHand(int i, int a, int b) {
        return isStretch(i) && isBearer(b) && (a == NONE || isBearer(a));
    }

    int harm(int i, int a, int b) {
        return canHand(i, a, b) ? harm(told, i, a, b) : BAD;
    }

    private static int orderHarm(Told told, int i) {
        return harm(told, i, i == 0 ? NONE : told.stretches.get(i - 1)[2], told.stretches.get(i)[2]);
    }

    /** That DEPTH is d behind STRETCH upTo, by all that may come from a DEPTH ahead of STRETCH i. */
    private static Fraction reach(Told told, int i, int depth, int upTo, int d, int dropAt, Map<Integer, Fraction> known) {
        if (i > upTo || depth == 0) {
            return depth == d ? ONE : ZERO;
        }
        int key = i * 10 + depth;
        if (!known.containsKey(key)) {
            int from = i == dropAt ? Math.min(9, depth + 2) : depth;
            int harm = orderHarm(told, i);
            Fraction falls = reach(told, i + 1, from - 1, upTo, d, dropAt, known).times(Fraction.of(harm, 20));
            Fraction rises = reach(told, i + 1, Math.min(9, from + 1), upTo, d, dropAt, known).times(Fraction.of(20 - harm, 20));
            known.put(key, falls.plus(rises));
        }
        return known.get(key);
    }

    private static Fraction wakes(Told told, int dropAt) {
        return reach(told, 0, told.start, told.stretches.size() - 1, 0, dropAt, new HashMap<>());
    }

    long wakes(int what) {
        return within(what, 0, 1) ? wakes(told, NONE).part(what) : BAD;
    }

    long awake(int i, int what) {
        return depth(i, 0, what);
    }

    long depth(int i, int d, int what) {
        if (!isStretch(i) || !within(d, 0, 9) || !within(what, 0, 1)) {
            return BAD;
        }
        return reach(told, 0, told.start, i, d, NONE, new HashMap<>()).part(what);
    }

    // ---- the best

    private Fraction least(int i, int a, int depth, int without, Map<String, Fraction> known) {
        if (depth == 0) {
            return ONE;
        }
        if (i == told.stretches.size()) {
            return ZERO;
        }
        String key = i + " " + a + " " + depth;
        if (!known.containsKey(key)) {
            Fraction least = null;
            for (int b = 0; b < told.bearers.size(); b++) {
                if (b != without) {
                    Fraction by = by(i, a, depth, b, without, known);
                    least = least == null || by.compareTo(least) < 0 ? by : least;
                }
            }
            known.put(key, least);
        }
        return known.get(key);
    }

    private Fraction by(int i, int a, int depth, int b, int without, Map<String, Fraction> known) {
        int harm = harm(told, i, a, b);
        return least(i + 1, b, depth - 1, without, known).times(Fraction.of(harm, 20))
            .plus(least(i + 1, b, Math.min(9, depth + 1), without, known).times(Fraction.of(20 - harm, 20)));
    }

    long best(int what) {
        return within(what, 0, 1) ? least(0, NONE, told.start, NONE, new HashMap<>()).part(what) : BAD;
    }

    int next(int i, int a, int d) {
        if (!isStretch(i) || !within(d, 1, 9) || !(isBearer(a) || a == NONE && i == 0)) {
            return BAD;
        }
        Map<String, Fraction> known = new HashMap<>();
        Fraction least = least(i, a, d, NONE, known);
        int b = 0;
        while (by(i, a, d, b, NONE, known).compareTo(least) != 0) {
            b++;
        }
        return b;
    }

    long without(int b, int what) {
        if (!isBearer(b) || !within(what, 0, 1)) {
            return BAD;
        }
        return told.bearers.size() == 1 ? STATE : least(0, NONE, told.start, b, new HashMap<>()).part(what);
    }

    // ---- what to do

    long quiet(int m, int what) {
        if (!within(m, 0, 4) || !within(what, 0, 2)) {
            return BAD;
        }
        Fraction least = null;
        int found = 0;
        for (int size = 0; size <= m; size++) {
            for (int set = 0; set < 1 << told.stretches.size(); set++) {
                if (Integer.bitCount(set) == size) {
                    Told other = told.copy();
                    for (int i = 0; i < told.stretches.size(); i++) {
                        other.stretches.get(i)[0] *= 1 - (set >> i) % 2;
                    }
                    Fraction wakes = wakes(other, NONE);
                    if (least == null || wakes.compareTo(least) < 0) {
                        least = wakes;
                        found = set;
                    }
                }
            }
        }
        return what == 2 ? found : least.part(what);
    }

    long drop(int what) {
        if (!within(what, 0, 2)) {
            return BAD;
        }
        Fraction least = null;
        int found = STATE;
        for (int i = 0; i < told.stretches.size(); i++) {
            Fraction wakes = wakes(told, i);
            if (least == null || wakes.compareTo(least) < 0) {
                least = wakes;
                found = i;
            }
        }
        return what == 2 || least == null ? found : least.part(what);
    }

    long swap(int what) {
        if (!within(what, 0, 2)) {
            return BAD;
        }
        Fraction least = wakes(told, NONE);
        int found = NONE;
        for (int pair = 0; pair < 100; pair++) {
            int i = pair / 10;
            int j = pair % 10;
            if (i < j && isStretch(j)) {
                Told other = told.copy();
                other.stretches.get(i)[2] = told.stretches.get(j)[2];
                other.stretches.get(j)[2] = told.stretches.get(i)[2];
                Fraction wakes = wakes(other, NONE);
                if (wakes.compareTo(least) < 0) {
                    least = wakes;
                    found = pair;
                }
            }
        }
        return what == 2 || found == NONE ? found : least.part(what);
    }

    // ---- a crossing

    int carry(int seed, int what) {
        if (!within(what, 0, 2)) {
            return BAD;
        }
        long now = seed & 0xFFFFFFFFL;
        int depth = told.start;
        int fell = 0;
        for (int i = 0; i < told.stretches.size(); i++) {
            now = (now * 1103515245L + 12345L) & 0xFFFFFFFFL;
            if (now % (1L << 31) / 65536 % 20 < orderHarm(told, i)) {
                fell++;
                if (--depth == 0) {
                    return what == 0 ? 0 : what == 1 ? fell : i;
                }
            } else {
                depth = depth == 9 ? 9 : depth + 1;
            }
        }
        return what == 0 ? depth : what == 1 ? fell : NONE;
    }

    // ---- learnt

    int learn(int i, int a, int b, int h) {
        if (!canHand(i, a, b) || !within(h, 0, 20)) {
            return BAD;
        }
        if (learnt.size() == 8) {
            return FULL;
        }
        learnt.add(new int[] {i, a, b, h});
        return learnt.size();
    }

    private static int cut(List<int[]> rows, int n) {
        if (n < 0 || n > rows.size()) {
            return BAD;
        }
        int had = rows.size();
        rows.subList(n, had).clear();
        return had;
    }

    int forget(int n) {
        return cut(learnt, n);
    }

    int steps(int b, int what) {
        if (!isBearer(b) || !within(what, 0, 2)) {
            return BAD;
        }
        List<Integer> fitting = new ArrayList<>();
        for (int step = 0; step <= 9; step++) {
            Told other = told.copy();
            other.bearers.get(b)[1] = step;
            if (learnt.stream().allMatch(row -> harm(other, row[0], row[1], row[2]) == row[3])) {
                fitting.add(step);
            }
        }
        if (what == 0) {
            return fitting.size();
        }
        return fitting.isEmpty() ? NONE : fitting.get(what == 1 ? 0 : fitting.size() - 1);
    }

    // ---- marked

    int mark(int i, int d) {
        if (!isStretch(i) || !within(d, 0, 9)) {
            return BAD;
        }
        if (marked.size() == 6) {
            return FULL;
        }
        marked.add(new int[] {i, d});
        return marked.size();
    }

    int wipe(int n) {
        return cut(marked, n);
    }

    /** Every PATH as its signs (v falls, ^ rises, - awake) and the DEPTHS behind each STRETCH. */
    private void list(int depth, String signs, String depths, List<String[]> all) {
        int i = signs.length();
        if (i == told.stretches.size()) {
            if (marked.stream().allMatch(row -> depths.charAt(row[0]) - '0' == row[1])) {
                all.add(new String[] {signs, depths});
            }
            return;
        }
        if (depth == 0) {
            list(0, signs + "-", depths + "0", all);
            return;
        }
        int harm = orderHarm(told, i);
        if (harm > 0) {
            list(depth - 1, signs + "v", depths + (depth - 1), all);
        }
        if (harm < 20) {
            int up = depth == 9 ? 9 : depth + 1;
            list(up, signs + "^", depths + up, all);
        }
    }

    private List<String[]> listAll() {
        List<String[]> all = new ArrayList<>();
        list(told.start, "", "", all);
        return all;
    }

    int paths() {
        return listAll().size();
    }

    int eye(int d) {
        if (!within(d, 0, 9)) {
            return BAD;
        }
        int bits = 0;
        for (String[] path : listAll()) {
            for (int i = 0; i < path[1].length(); i++) {
                bits |= path[1].charAt(i) == '0' + d ? 1 << i : 0;
            }
        }
        return bits;
    }

    int sure(int what) {
        if (!within(what, 0, 1)) {
            return BAD;
        }
        List<String[]> all = listAll();
        if (all.isEmpty()) {
            return NONE;
        }
        int bits = (1 << told.stretches.size()) - 1;
        for (String[] path : all) {
            for (int i = 0; i < path[0].length(); i++) {
                bits &= path[0].charAt(i) == (what == 0 ? 'v' : '^') ? -1 : ~(1 << i);
            }
        }
        return bits;
    }

    // ---- images, sheets

    int keep(int k) {
        if (!within(k, 0, 1)) {
            return BAD;
        }
        int was = images[k] == null ? 0 : 1;
        images[k] = told.copy();
        return was;
    }

    int back(int k) {
        if (!within(k, 0, 1)) {
            return BAD;
        }
        if (images[k] == null) {
            return STATE;
        }
        told = images[k].copy();
        return told.stretches.size();
    }

    int sheet(int k, int lane, int n) {
        if (!within(k, 0, 3) || !within(lane, 0, 2) || n > 40) {
            return BAD;
        }
        try {
            sheets[k] = lane == 0 ? new byte[n] : lane == 1 ? new short[n] : new int[n];
            return 1;
        } catch (NegativeArraySizeException size) {
            return -14;
        }
    }

    int lay(int k, int i, int v) {
        if (!within(k, 0, 3)) {
            return BAD;
        }
        try {
            if (sheets[k] instanceof byte[] row) {
                row[i] = (byte) v;
            } else if (sheets[k] instanceof short[] row) {
                row[i] = (short) v;
            } else {
                ((int[]) sheets[k])[i] = v;
            }
            return 1;
        } catch (NullPointerException nothing) {
            return -11;
        } catch (ArrayIndexOutOfBoundsException index) {
            return -12;
        }
    }

    private static void take(Object sheet, int lane, int f, int n, List<int[]> whole) {
        if (lane == 0) {
            byte[] row = (byte[]) sheet;
            for (int p = 0; p < n; p++) {
                whole.add(new int[] {row[f + 2 * p], row[f + 2 * p + 1]});
            }
        } else if (lane == 1) {
            short[] row = (short[]) sheet;
            for (int p = 0; p < n; p++) {
                whole.add(new int[] {row[f + 2 * p], row[f + 2 * p + 1]});
            }
        } else {
            int[] row = (int[]) sheet;
            for (int p = 0; p < n; p++) {
                whole.add(new int[] {row[f + 2 * p], row[f + 2 * p + 1]});
            }
        }
    }

    int read(int k, int lane, int f, int n) {
        if (!within(k, 0, 3) || !within(lane, 0, 2) || !within(n, 0, 20)) {
            return BAD;
        }
        List<int[]> whole = new ArrayList<>();
        int found = 0;
        try {
            take(sheets[k], lane, f, n, whole);
        } catch (NullPointerException nothing) {
            found = 1;
        } catch (ArrayIndexOutOfBoundsException index) {
            found = 2;
        } catch (ClassCastException cast) {
            found = 3;
        }
        for (int p = 0; p < whole.size(); p++) {
            if (!isStretch(whole.get(p)[0]) || !isBearer(whole.get(p)[1])) {
                return -20 - p;
            }
        }
        whole.forEach(pair -> put(pair[0], pair[1]));
        torn = found;
        return whole.size();
    }

    int torn() {
        return torn;
    }

    int count(int what) {
        switch (what) {
            case 0: return learnt.size();
            case 1: return marked.size();
            case 2: return (images[0] == null ? 0 : 1) + (images[1] == null ? 0 : 1);
            case 3: return tape.length();
            case 4: return sheets[0] == null ? NONE : java.lang.reflect.Array.getLength(sheets[0]);
            case 5:
                int many = 0;
                for (int i = 0; i + 1 < told.stretches.size(); i++) {
                    many += told.stretches.get(i)[2] == told.stretches.get(i + 1)[2] ? 0 : 1;
                }
                return many;
            default: return BAD;
        }
    }
}
