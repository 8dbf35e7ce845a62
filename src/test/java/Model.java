import java.util.ArrayList;
import java.util.Arrays;
import java.util.List;

/** The document once more, word by word and without any haste: what ModelTest compares PathCycle with. */
final class Model {
    private static final int NONE = -1;

    /** All that THE IMAGE holds. */
    private static final class State {
        int n = 3;
        int m = 1;
        int t = 24;
        int[] kinds = new int[5];
        int[] gradients = new int[5];
        int[][] weights = new int[5][7];
        int[] lengths = new int[4];
        int[][] steps = new int[6][4];
        int[][] rows = new int[6][];
        boolean follows = true;
        List<int[]> paths = new ArrayList<>();
        boolean[] wished;
        boolean[] free;

        State copy() {
            State s = new State();
            s.n = n;
            s.m = m;
            s.t = t;
            s.kinds = kinds.clone();
            s.gradients = gradients.clone();
            s.lengths = lengths.clone();
            for (int i = 0; i < 5; i++) {
                s.weights[i] = weights[i].clone();
            }
            for (int i = 0; i < 6; i++) {
                s.steps[i] = steps[i].clone();
                s.rows[i] = rows[i].clone();
            }
            s.follows = follows;
            s.paths = new ArrayList<>(paths);
            s.wished = wished.clone();
            s.free = free.clone();
            return s;
        }
    }

    private State x = new State();
    private State kept = null;
    private byte[] tape = new byte[0];
    private int fault = 0;
    private int faultPlace = NONE;

    Model() {
        x.lengths = new int[] {1, 1, 1, 1};
        cycleAsAtFirst();
        for (int[] w : x.weights) {
            Arrays.fill(w, 1);
        }
        listPaths();
    }

    private void cycleAsAtFirst() {
        x.lengths = new int[] {1, 1, 1, 1};
        x.steps = new int[6][4];
        for (int i = 0; i < 6; i++) {
            x.rows[i] = new int[] {0};
        }
    }

    private void listPaths() {
        x.paths = new ArrayList<>();
        extend(new int[x.n], 0);
        x.wished = new boolean[x.paths.size()];
        x.free = new boolean[x.paths.size()];
    }

    private void extend(int[] orders, int k) {
        if (k == x.n) {
            if (orders[x.n - 1] == -1) {
                x.paths.add(orders.clone());
            }
            return;
        }
        int ahead = k == 0 ? 0 : orders[k - 1];
        for (int o = -x.m; o <= x.m; o++) {
            boolean can = x.kinds[k] == 0 || (x.kinds[k] == 1 && o + ahead == 0)
                    || (x.kinds[k] == 2 && o - ahead <= 1 && ahead - o <= 1);
            if (can) {
                orders[k] = o;
                extend(orders, k + 1);
            }
        }
    }

    private int change(int p, int k) {
        int[] o = x.paths.get(p);
        return o[k] - (k == 0 ? 0 : o[k - 1]);
    }

    private int scans() {
        return x.lengths[0] * x.lengths[1] * x.lengths[2] * x.lengths[3];
    }

    private int mod(long a) {
        return (int) (((a % x.t) + x.t) % x.t);
    }

    private int phaseAt(int row, int s) {
        if (row == x.n && x.follows) {
            int c = chief();
            long all = 0;
            for (int k = 0; k < x.n && c >= 0; k++) {
                all += (long) change(c, k) * phaseAt(k, s);
            }
            return mod(all);
        }
        long all = x.rows[row][s % x.rows[row].length];
        int below = 1;
        for (int j = 0; j < 4; j++) {
            all += (long) (s / below % x.lengths[j]) * x.steps[row][j];
            below *= x.lengths[j];
        }
        return mod(all);
    }

    private int chief() {
        for (int p = 0; p < x.paths.size(); p++) {
            if (x.wished[p]) {
                return p;
            }
        }
        return NONE;
    }

    private int residueAt(int p, int s) {
        long all = 0;
        for (int k = 0; k < x.n; k++) {
            all += (long) change(p, k) * phaseAt(k, s);
        }
        return mod(all - phaseAt(x.n, s));
    }

    private int stateBy(int p, int scans) {
        long[] sum = new long[x.t];
        for (int s = 0; s < scans; s++) {
            sum[residueAt(p, s)]++;
        }
        return stateOf(sum);
    }

    private int stateOf(long[] sum) {
        if (isNothing(sum)) {
            return 0;
        }
        int alike = 0;
        for (long c : sum) {
            alike += c > 0 ? 1 : 0;
        }
        return alike == 1 ? 2 : 1;
    }

    /** Divides by the cyclotomic polynomial of T: no rest. */
    private boolean isNothing(long[] sum) {
        long[] phi = cyclotomic(x.t);
        long[] rest = sum.clone();
        int degree = phi.length - 1;
        for (int i = rest.length - 1; i >= degree; i--) {
            long q = rest[i];
            for (int j = 0; j <= degree; j++) {
                rest[i - degree + j] -= q * phi[j];
            }
        }
        for (long c : rest) {
            if (c != 0) {
                return false;
            }
        }
        return true;
    }

    private static final long[][] KNOWN = new long[49][];

    private static long[] cyclotomic(int t) {
        if (KNOWN[t] != null) {
            return KNOWN[t];
        }
        long[] a = new long[t + 1];
        a[0] = -1;
        a[t] = 1;
        for (int d = 1; d < t; d++) {
            if (t % d == 0) {
                a = divide(a, d == 1 ? new long[] {-1, 1} : cyclotomic(d));
            }
        }
        KNOWN[t] = a;
        return a;
    }

    private static long[] divide(long[] a, long[] b) {
        long[] rest = a.clone();
        long[] q = new long[a.length - b.length + 1];
        for (int i = q.length - 1; i >= 0; i--) {
            q[i] = rest[i + b.length - 1];
            for (int j = 0; j < b.length; j++) {
                rest[i + j] -= q[i] * b[j];
            }
        }
        return q;
    }

    private boolean isSpoiled(int p) {
        int all = 0;
        for (int k = 0; k < x.n; k++) {
            all += x.paths.get(p)[k] * x.gradients[k];
        }
        return all != 0;
    }

    private int weightOf(int p) {
        int all = 1;
        for (int k = 0; k < x.n; k++) {
            all *= x.weights[k][Math.abs(change(p, k))];
        }
        return all;
    }

    private boolean isGone(int p) {
        return isSpoiled(p) || weightOf(p) == 0;
    }

    private boolean isLeak(int p, int scans) {
        return !x.wished[p] && !x.free[p] && !isGone(p) && stateBy(p, scans) != 0;
    }

    private boolean isLost(int p, int scans) {
        return x.wished[p] && (isGone(p) || stateBy(p, scans) == 0);
    }

    private List<Integer> leaks() {
        List<Integer> all = new ArrayList<>();
        for (int p = 0; p < x.paths.size(); p++) {
            if (isLeak(p, scans())) {
                all.add(p);
            }
        }
        return all;
    }

    private List<Integer> losts() {
        List<Integer> all = new ArrayList<>();
        for (int p = 0; p < x.paths.size(); p++) {
            if (isLost(p, scans())) {
                all.add(p);
            }
        }
        return all;
    }

    private boolean isGoodBy(int scans) {
        if (chief() == NONE) {
            return false;
        }
        for (int p = 0; p < x.paths.size(); p++) {
            if (isLost(p, scans) || isLeak(p, scans)) {
                return false;
            }
        }
        return true;
    }

    private boolean hasPath(int p) {
        return p >= 0 && p < x.paths.size();
    }

    private boolean hasPulse(int k) {
        return k >= 0 && k < x.n;
    }

    int pulses(int n, int m) {
        if (n < 1 || n > 5 || m < 1 || m > 3) {
            return NONE;
        }
        x.n = n;
        x.m = m;
        x.kinds = new int[5];
        x.gradients = new int[5];
        for (int[] w : x.weights) {
            Arrays.fill(w, 1);
        }
        cycleAsAtFirst();
        listPaths();
        return x.paths.size();
    }

    boolean kind(int pulse, int kind) {
        if (!hasPulse(pulse) || kind < 0 || kind > 2) {
            return false;
        }
        x.kinds[pulse] = kind;
        listPaths();
        return true;
    }

    boolean turn(int t) {
        if (t < 2 || t > 48) {
            return false;
        }
        x.t = t;
        cycleAsAtFirst();
        return true;
    }

    int counter(int counter, int length) {
        if (counter < 0 || counter > 3 || length < 1 || length > 12) {
            return NONE;
        }
        if (scans() / x.lengths[counter] * length > 512) {
            return NONE;
        }
        x.lengths[counter] = length;
        return scans();
    }

    boolean step(int pulse, int counter, int v) {
        if (pulse < 0 || pulse > x.n || counter < 0 || counter > 3 || v < 0 || v >= x.t) {
            return false;
        }
        x.steps[pulse][counter] = v;
        return true;
    }

    boolean gradient(int pulse, int v) {
        if (!hasPulse(pulse) || v < -9 || v > 9) {
            return false;
        }
        x.gradients[pulse] = v;
        return true;
    }

    boolean weight(int pulse, int change, int v) {
        if (!hasPulse(pulse) || change < 0 || change > 6 || v < 0 || v > 9) {
            return false;
        }
        x.weights[pulse][change] = v;
        return true;
    }

    boolean swap(int a, int b) {
        if (a == b || a < 0 || b < 0 || a > 3 || b > 3) {
            return false;
        }
        int l = x.lengths[a];
        x.lengths[a] = x.lengths[b];
        x.lengths[b] = l;
        for (int[] row : x.steps) {
            int s = row[a];
            row[a] = row[b];
            row[b] = s;
        }
        return true;
    }

    boolean follow(boolean is) {
        boolean changes = x.follows != is;
        x.follows = is;
        return changes;
    }

    boolean wish(int path, boolean is) {
        if (!hasPath(path) || x.wished[path] == is) {
            return false;
        }
        x.wished[path] = is;
        if (is) {
            x.free[path] = false;
        }
        return true;
    }

    boolean free(int path, boolean is) {
        if (!hasPath(path) || x.free[path] == is) {
            return false;
        }
        x.free[path] = is;
        if (is) {
            x.wished[path] = false;
        }
        return true;
    }

    int freeAll(int pulse, int order) {
        if (!hasPulse(pulse) || Math.abs((long) order) > x.m) {
            return NONE;
        }
        int count = 0;
        for (int p = 0; p < x.paths.size(); p++) {
            if (x.paths.get(p)[pulse] == order && !x.wished[p] && !x.free[p]) {
                x.free[p] = true;
                count++;
            }
        }
        return count;
    }

    int feed(int... five) {
        if (tape.length + 20 > 400) {
            return NONE;
        }
        int at = tape.length;
        tape = Arrays.copyOf(tape, at + 20);
        for (int number : five) {
            for (int i = 3; i >= 0; i--) {
                tape[at++] = (byte) (number >>> (8 * i));
            }
        }
        return tape.length;
    }

    boolean end(int n) {
        if (n < 0 || n > tape.length) {
            return false;
        }
        tape = Arrays.copyOf(tape, n);
        return true;
    }

    /** THE TAPE as a text; reads it by what is left of it. */
    int rows() {
        StringBuilder b = new StringBuilder();
        for (byte one : tape) {
            b.append((char) (one & 255));
        }
        String text = b.toString();
        tape = new byte[0];
        fault = 0;
        faultPlace = NONE;
        int[][] read = new int[6][];
        int told = 0;
        int at = blanks(text, 0);
        while (at < text.length()) {
            String rest = text.substring(at);
            int row = rest.startsWith("r") ? x.n : NONE;
            for (int k = 0; k < x.n; k++) {
                if (rest.startsWith("p" + (k + 1))) {
                    row = k;
                }
            }
            if (row == NONE) {
                return failed(1, at);
            }
            if (read[row] != null) {
                return failed(3, at);
            }
            at = blanks(text, at + (row == x.n ? 1 : 2));
            if (!text.startsWith("=", at)) {
                return failed(1, at);
            }
            at++;
            List<Integer> numbers = new ArrayList<>();
            while (true) {
                at = blanks(text, at);
                if (!numbers.isEmpty() && text.startsWith(";", at)) {
                    at++;
                    break;
                }
                int to = at;
                while (to < text.length() && "0123456789".indexOf(text.charAt(to)) >= 0) {
                    to++;
                }
                if (to == at || numbers.size() == 24) {
                    return failed(1, at);
                }
                java.math.BigInteger v = new java.math.BigInteger(text.substring(at, to));
                if (v.compareTo(java.math.BigInteger.valueOf(x.t)) >= 0) {
                    return failed(2, at);
                }
                numbers.add(v.intValue());
                at = to;
            }
            read[row] = numbers.stream().mapToInt(Integer::intValue).toArray();
            told++;
            at = blanks(text, at);
        }
        for (int row = 0; row < 6; row++) {
            x.rows[row] = read[row] == null ? new int[] {0} : read[row];
        }
        return told;
    }

    private static int blanks(String text, int from) {
        int at = from;
        while (at < text.length() && text.charAt(at) == ' ') {
            at++;
        }
        return at;
    }

    private int failed(int what, int at) {
        fault = what;
        faultPlace = at;
        return NONE;
    }

    int fault(int what) {
        return what == 0 ? fault : what == 1 ? faultPlace : NONE;
    }

    int lay(int what) {
        int[] is = what == 0 ? fewestAll() : what == 1 ? cogsAll() : null;
        if (is == null) {
            return NONE;
        }
        if (what == 0) {
            int counters = 0;
            for (int k = 0; k < x.n; k++) {
                counters += is[k] > 1 ? 1 : 0;
            }
            if (counters > 4 || is[5] > 512) {
                return NONE;
            }
        }
        cycleAsAtFirst();
        x.follows = true;
        int j = 0;
        for (int k = 0; k < x.n; k++) {
            if (what == 1) {
                x.steps[k][0] = is[k] * x.t / is[5];
            } else if (is[k] > 1) {
                x.lengths[j] = is[k];
                x.steps[k][j] = x.t / is[k];
                j++;
            }
        }
        if (what == 1) {
            x.lengths[0] = is[5];
        }
        return scans();
    }

    int order(int path, int pulse) {
        return hasPath(path) && hasPulse(pulse) ? x.paths.get(path)[pulse] : -10;
    }

    int find(int... orders) {
        for (int p = 0; p < x.paths.size(); p++) {
            boolean is = true;
            for (int k = 0; k < x.n - 1; k++) {
                is &= x.paths.get(p)[k] == orders[k];
            }
            if (is) {
                return p;
            }
        }
        return NONE;
    }

    int phase(int pulse, int scan) {
        return pulse < 0 || pulse > x.n || scan < 0 || scan >= scans() ? NONE : phaseAt(pulse, scan);
    }

    int residue(int path, int scan) {
        return !hasPath(path) || scan < 0 || scan >= scans() ? NONE : residueAt(path, scan);
    }

    int many(int path, int residue) {
        if (!hasPath(path) || residue < 0 || residue >= x.t) {
            return NONE;
        }
        int count = 0;
        for (int s = 0; s < scans(); s++) {
            count += residueAt(path, s) == residue ? 1 : 0;
        }
        return count;
    }

    int path(int p, int what) {
        if (!hasPath(p) || what < 0 || what > 8) {
            return NONE;
        }
        int changes = 0;
        int greatest = 0;
        for (int k = 0; k < x.n; k++) {
            changes += change(p, k) != 0 ? 1 : 0;
            greatest = Math.max(greatest, Math.abs(x.paths.get(p)[k]));
        }
        boolean[] flags = {false, x.wished[p], x.free[p], what == 3 && isLeak(p, scans())};
        return what == 0 ? stateBy(p, scans()) : what <= 3 ? (flags[what] ? 1 : 0) : what == 4 ? changes
                : what == 5 ? greatest : what == 6 ? (isSpoiled(p) ? 1 : 0) : what == 7 ? weightOf(p)
                : isGone(p) ? 1 : 0;
    }

    int leak(int i) {
        List<Integer> all = leaks();
        return i == NONE ? all.size() : i < 0 || i >= all.size() ? NONE : all.get(i);
    }

    int worst(int i, int what) {
        List<Integer> all = leaks();
        all.sort((a, b) -> weightOf(a) != weightOf(b) ? weightOf(b) - weightOf(a) : a - b);
        if (i < 0 || i >= all.size() || what < 0 || what > 1) {
            return NONE;
        }
        return what == 0 ? all.get(i) : weightOf(all.get(i));
    }

    int stopped(int path) {
        if (!hasPath(path)) {
            return NONE;
        }
        State before = x;
        int set = 0;
        for (int j = 0; j < 4; j++) {
            x = before.copy();
            x.lengths = new int[] {1, 1, 1, 1};
            x.lengths[j] = before.lengths[j];
            for (int i = 0; i < 6; i++) {
                x.rows[i] = new int[] {0};
            }
            if (stateBy(path, scans()) == 0) {
                set += 1 << j;
            }
        }
        x = before;
        return set;
    }

    int spare(int counter) {
        if (counter < 0 || counter > 3) {
            return NONE;
        }
        State before = x;
        x = before.copy();
        int found = NONE;
        for (int l = 1; l <= 12 && found == NONE; l++) {
            x.lengths[counter] = l;
            if (scans() <= 512 && isGoodBy(scans())) {
                found = l;
            }
        }
        x = before;
        return found;
    }

    int soonest() {
        if (x.paths.size() > 200) {
            return NONE;
        }
        for (int k = 1; k <= scans(); k++) {
            if (isGoodBy(k)) {
                return k;
            }
        }
        return NONE;
    }

    int lost(int i) {
        List<Integer> all = losts();
        return i == NONE ? all.size() : i < 0 || i >= all.size() ? NONE : all.get(i);
    }

    int early(int path, int scans) {
        return !hasPath(path) || scans < 1 || scans > scans() ? NONE : stateBy(path, scans);
    }

    int until(int path, int at) {
        if (!hasPath(path) || at < 1 || at > scans()) {
            return NONE;
        }
        for (int k = at; k <= scans(); k++) {
            if (stateBy(path, k) == 0) {
                return k;
            }
        }
        return NONE;
    }

    /** Whether just the right PATHS are left, if W of a PULSE is stepped by T by L: for FEWEST, one by one. */
    private boolean leavesRight(int[] steps) {
        for (int p = 0; p < x.paths.size(); p++) {
            boolean left = true;
            for (int k = 0; k < x.n; k++) {
                left &= (change(p, k) - change(chief(), k)) % steps[k] == 0;
            }
            if (isWrong(p, left)) {
                return false;
            }
        }
        return true;
    }

    private boolean cogsRight(int[] w, int l) {
        for (int p = 0; p < x.paths.size(); p++) {
            int all = 0;
            for (int k = 0; k < x.n; k++) {
                all += (change(p, k) - change(chief(), k)) * w[k];
            }
            if (isWrong(p, all % l == 0)) {
                return false;
            }
        }
        return true;
    }

    private boolean isWrong(int p, boolean left) {
        if (x.wished[p]) {
            return !left || isGone(p);
        }
        return left && !x.free[p] && !isGone(p);
    }

    /** Next of the numbers from..to, the last of n the fastest; false behind the last. */
    private static boolean count(int[] digits, int n, int from, int to) {
        for (int k = n - 1; k >= 0; k--) {
            if (digits[k] < to) {
                digits[k]++;
                return true;
            }
            digits[k] = from;
        }
        return false;
    }

    int[] fewestAll() {
        if (chief() == NONE) {
            return null;
        }
        int[] steps = {1, 1, 1, 1, 1};
        int[] best = null;
        do {
            int product = 1;
            boolean divides = true;
            for (int k = 0; k < x.n; k++) {
                product *= steps[k];
                divides &= x.t % steps[k] == 0;
            }
            if (divides && (best == null || product < best[5]) && leavesRight(steps)) {
                best = Arrays.copyOf(steps, 6);
                best[5] = product;
            }
        } while (count(steps, x.n, 1, 12));
        return best;
    }

    int[] cogsAll() {
        if (chief() == NONE || x.paths.size() > 200) {
            return null;
        }
        for (int l = 1; l <= 12; l++) {
            int[] w = new int[5];
            do {
                if (x.t % l == 0 && cogsRight(w, l)) {
                    int[] all = Arrays.copyOf(w, 6);
                    all[5] = l;
                    return all;
                }
            } while (count(w, x.n, 0, l - 1));
        }
        return null;
    }

    int fewest(int what) {
        int[] all = fewestAll();
        return all == null ? NONE : hasPulse(what) ? all[what] : what == 10 ? all[5] : NONE;
    }

    int cogs(int what) {
        int[] all = cogsAll();
        return all == null ? NONE : hasPulse(what) ? all[what] : what == 10 ? all[5] : NONE;
    }

    long power(int path) {
        if (!hasPath(path) || (x.t != 2 && x.t != 3 && x.t != 4 && x.t != 6)) {
            return NONE;
        }
        double a = 0;
        double b = 0;
        for (int s = 0; s < scans(); s++) {
            a += Math.cos(2 * Math.PI * residueAt(path, s) / x.t);
            b += Math.sin(2 * Math.PI * residueAt(path, s) / x.t);
        }
        return Math.round(a * a + b * b);
    }

    int would(int... five) {
        if (chief() == NONE) {
            return NONE;
        }
        for (int k = 0; k < x.n; k++) {
            if (five[k] < 1 || five[k] > 12 || x.t % five[k] != 0) {
                return NONE;
            }
        }
        int count = 0;
        for (int p = 0; p < x.paths.size(); p++) {
            boolean left = !x.wished[p] && !x.free[p] && !isGone(p);
            for (int k = 0; k < x.n; k++) {
                left &= (change(p, k) - change(chief(), k)) % five[k] == 0;
            }
            count += left ? 1 : 0;
        }
        return count;
    }

    private int[] fraction(int what) {
        int there = 0;
        for (int p = 0; p < x.paths.size() && what == 1; p++) {
            there += stateBy(p, scans()) != 0 ? 1 : 0;
        }
        int[] is = what == 2 ? fewestAll() : what == 3 ? cogsAll() : null;
        switch (what) {
            case 0: return new int[] {leaks().size(), x.paths.size()};
            case 1: return new int[] {there, x.paths.size()};
            case 2: case 3: return new int[] {scans(), is == null ? 0 : is[5]};
            case 4: return new int[] {x.t, scans()};
            default: return new int[] {0, 0};
        }
    }

    int share(int what) {
        int[] f = fraction(what);
        return f[1] == 0 ? NONE : Float.floatToIntBits((float) f[0] / (float) f[1]);
    }

    long part(int what) {
        int[] f = fraction(what);
        return f[1] == 0 ? NONE : Double.doubleToLongBits((double) f[0] / (double) f[1]);
    }

    boolean image(boolean taken) {
        if (taken) {
            kept = x.copy();
        } else if (kept != null) {
            x = kept.copy();
        }
        return kept != null;
    }

    int look(int what) {
        int marks = 0;
        for (int p = 0; p < x.paths.size(); p++) {
            marks += what == 5 && x.wished[p] || what == 6 && x.free[p] ? 1 : 0;
            if (what == 13 && isLeak(p, scans()) || what == 14 && x.wished[p] && !isLost(p, scans())) {
                marks += weightOf(p);
            }
        }
        switch (what) {
            case 0: return x.n;
            case 1: return x.m;
            case 2: return x.t;
            case 3: return x.paths.size();
            case 4: return scans();
            case 5: case 6: case 13: case 14: return marks;
            case 7: return leaks().size();
            case 8: return losts().size();
            case 9: return isGoodBy(scans()) ? 1 : 0;
            case 10: return chief();
            case 11: return x.follows ? 1 : 0;
            case 12: return tape.length;
            default: break;
        }
        if (what >= 20 && what < 20 + x.n) {
            return x.kinds[what - 20];
        }
        if (what >= 30 && what < 34) {
            return x.lengths[what - 30];
        }
        if (what >= 40 && what <= 40 + x.n) {
            return x.rows[what - 40].length;
        }
        return what >= 50 && what < 50 + x.n ? x.gradients[what - 50] : -100;
    }
}
