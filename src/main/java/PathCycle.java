import java.util.Arrays;

/** Steps of phases by which only wished paths of orders are left. */
public final class PathCycle {
    public static final int NONE = -1;

    private static final int NO_ORDER = NONE - 9;
    private static final int NO_LOOK = NONE - 99;

    private static final int MOST_PULSES = 5;
    private static final int MOST_ORDER = 3;
    private static final int MOST_PATHS = 2401;
    private static final int TURNING = 1;
    private static final int NEAR = 2;
    private static final int MOST_GRADIENT = 9;
    private static final int MOST_WEIGHT = 9;
    private static final int CHANGES = 7;

    private static final int LEAST_UNITS = 2;
    private static final int MOST_UNITS = 48;
    private static final int COUNTERS = 4;
    private static final int MOST_LENGTH = 12;
    private static final int MOST_SCANS = 512;
    private static final int ROWS = MOST_PULSES + 1;
    private static final int MOST_NUMBERS = 24;
    private static final int MOST_BYTES = 400;
    private static final int FED_BYTES = 20;
    private static final int SEARCHED_PATHS = 200;

    private static final int PLAIN = 0;
    private static final int WISHED = 1;
    private static final int FREE = 2;

    private static final int LEAKS = 0;
    private static final int LOST = 1;
    private static final int KEPT = 2;
    private static final int LEFT = 3;

    private static final int VANISHES = 0;
    private static final int PARTLY = 1;
    private static final int WHOLE = 2;
    private static final int UNKNOWN = 3;

    private static final int CANNOT_STAND = 1;
    private static final int CANNOT_BE = 2;
    private static final int TOLD_ALREADY = 3;

    private final Pulses told = new Pulses();
    private final Cycle cycle = new Cycle();
    private final Pulses keptTold = new Pulses();
    private final Cycle keptCycle = new Cycle();
    private boolean kept = false;
    private final Tape tape = new Tape();

    private final Paths paths = new Paths();
    private int chief = NONE;
    private final Scans scans = new Scans();
    private final Sum sum = new Sum();
    private final byte[] states = new byte[MOST_PATHS];
    private boolean statesKnown = false;
    private final int[] scratch = new int[MOST_PATHS];
    private final Wants wants = new Wants();
    private final Fewest fewestSteps = new Fewest();
    private final Cogs cogSteps = new Cogs();

    public PathCycle() {
        paths.list(told);
    }

    // What is told

    public int pulses(int n, int m) {
        if (n < 1 || n > MOST_PULSES || m < 1 || m > MOST_ORDER) {
            return NONE;
        }
        told.begin(n, m);
        cycle.begin();
        pathsTold();
        return paths.count;
    }

    public boolean kind(int pulse, int kind) {
        if (!isPulse(pulse) || kind < 0 || kind > NEAR) {
            return false;
        }
        told.kinds[pulse] = kind;
        told.unmark();
        pathsTold();
        return true;
    }

    public boolean turn(int t) {
        if (t < LEAST_UNITS || t > MOST_UNITS) {
            return false;
        }
        cycle.units = t;
        cycle.begin();
        cycleTold();
        searchesTold();
        return true;
    }

    public int counter(int counter, int length) {
        if (!isCounter(counter) || length < 1 || length > MOST_LENGTH
                || cycle.scansBut(counter) * length > MOST_SCANS) {
            return NONE;
        }
        cycle.lengths[counter] = length;
        cycleTold();
        return cycle.countScans();
    }

    public boolean step(int pulse, int counter, int v) {
        if (!isRow(pulse) || !isCounter(counter) || v < 0 || v >= cycle.units) {
            return false;
        }
        cycle.steps[pulse * COUNTERS + counter] = v;
        cycleTold();
        return true;
    }

    public boolean gradient(int pulse, int v) {
        if (!isPulse(pulse) || v < -MOST_GRADIENT || v > MOST_GRADIENT) {
            return false;
        }
        told.gradients[pulse] = v;
        goneTold();
        return true;
    }

    public boolean weight(int pulse, int change, int v) {
        if (!isPulse(pulse) || change < 0 || change >= CHANGES || v < 0 || v > MOST_WEIGHT) {
            return false;
        }
        told.weights[pulse * CHANGES + change] = v;
        goneTold();
        return true;
    }

    public boolean swap(int a, int b) {
        if (a == b || !isCounter(a) || !isCounter(b)) {
            return false;
        }
        cycle.exchange(a, b);
        cycleTold();
        return true;
    }

    public boolean follow(boolean is) {
        if (cycle.follows == is) {
            return false;
        }
        cycle.follows = is;
        cycleTold();
        return true;
    }

    public boolean wish(int path, boolean is) {
        return mark(path, WISHED, is);
    }

    public boolean free(int path, boolean is) {
        return mark(path, FREE, is);
    }

    public int freeAll(int pulse, int order) {
        if (!isPulse(pulse) || order < -told.most || order > told.most) {
            return NONE;
        }
        int freed = 0;
        for (int path = 0; path < paths.count; path++) {
            if (paths.orderOf(path, pulse) == order && told.marks[path] == PLAIN) {
                told.marks[path] = (byte) FREE;
                freed++;
            }
        }
        searchesTold();
        return freed;
    }

    private boolean mark(int path, int mark, boolean is) {
        if (!isPath(path) || (told.marks[path] == mark) == is) {
            return false;
        }
        told.marks[path] = (byte) (is ? mark : PLAIN);
        int before = chief;
        chief = told.firstWished(paths.count);
        if (chief != before && cycle.follows) {
            cycleTold();
        }
        searchesTold();
        return true;
    }

    // The tape

    public int feed(int a, int b, int c, int d, int e) {
        if (tape.size + FED_BYTES > MOST_BYTES) {
            return NONE;
        }
        tape.put(a);
        tape.put(b);
        tape.put(c);
        tape.put(d);
        tape.put(e);
        return tape.size;
    }

    public boolean end(int n) {
        if (n < 0 || n > tape.size) {
            return false;
        }
        tape.size = n;
        return true;
    }

    public int rows() {
        int read = tape.read(told.n, cycle.units);
        tape.size = 0;
        if (read != NONE) {
            cycle.takeRows(tape.numbers, tape.sizes);
            cycleTold();
        }
        return read;
    }

    public int fault(int what) {
        if (what == 0) {
            return tape.fault;
        }
        return what == 1 ? tape.faultPlace : NONE;
    }

    public int lay(int what) {
        boolean laid = false;
        if (what == 0) {
            findFewest();
            laid = fewestSteps.product != NONE && layFewest();
        } else if (what == 1) {
            findCogs();
            laid = cogSteps.length != NONE && layCogs();
        }
        if (!laid) {
            return NONE;
        }
        cycle.follows = true;
        cycleTold();
        return cycle.countScans();
    }

    private boolean layFewest() {
        int counters = 0;
        for (int pulse = 0; pulse < told.n; pulse++) {
            if (fewestSteps.best[pulse] > 1) {
                counters++;
            }
        }
        if (counters > COUNTERS || fewestSteps.product > MOST_SCANS) {
            return false;
        }
        cycle.begin();
        int counter = 0;
        for (int pulse = 0; pulse < told.n; pulse++) {
            int steps = fewestSteps.best[pulse];
            if (steps > 1 && counter < COUNTERS) {
                cycle.lengths[counter] = steps;
                cycle.steps[pulse * COUNTERS + counter] = cycle.units / steps;
                counter++;
            }
        }
        return true;
    }

    private boolean layCogs() {
        int length = cogSteps.length;
        if (length < 1) {
            return false;
        }
        cycle.begin();
        cycle.lengths[0] = length;
        for (int pulse = 0; pulse < told.n; pulse++) {
            cycle.steps[pulse * COUNTERS] = cogSteps.picks[pulse] * (cycle.units / length);
        }
        return true;
    }

    // Paths, phases and residues

    public int order(int path, int pulse) {
        return isPath(path) && isPulse(pulse) ? paths.orderOf(path, pulse) : NO_ORDER;
    }

    public int find(int a, int b, int c, int d) {
        int code = 0;
        for (int pulse = 0; pulse < told.n - 1; pulse++) {
            int order = pulse == 0 ? a : pulse == 1 ? b : pulse == 2 ? c : d;
            if (order < -told.most || order > told.most) {
                return NONE;
            }
            code = code * (2 * told.most + 1) + order + told.most;
        }
        return paths.numbers[code];
    }

    public int phase(int pulse, int scan) {
        if (!isRow(pulse) || !isScan(scan)) {
            return NONE;
        }
        buildScans();
        return scans.phases[pulse][scan];
    }

    public int residue(int path, int scan) {
        if (!isPath(path) || !isScan(scan)) {
            return NONE;
        }
        buildScans();
        return scans.residues(paths, path)[scan];
    }

    public int many(int path, int residue) {
        if (!isPath(path) || residue < 0 || residue >= cycle.units) {
            return NONE;
        }
        buildScans();
        return scans.tally(paths, path, scans.count)[residue];
    }

    public int path(int path, int what) {
        if (!isPath(path)) {
            return NONE;
        }
        switch (what) {
            case 0: return stateOf(path);
            case 1: return told.marks[path] == WISHED ? 1 : 0;
            case 2: return told.marks[path] == FREE ? 1 : 0;
            case 3: return isIn(LEAKS, path) ? 1 : 0;
            case 4: return paths.countChanges(path, told.n);
            case 5: return paths.greatestOrder(path, told.n);
            case 6: weighPaths(); return paths.spoiled[path];
            case 7: weighPaths(); return paths.weights[path];
            case 8: return isGone(path) ? 1 : 0;
            default: return NONE;
        }
    }

    public int leak(int i) {
        return i == NONE ? count(LEAKS) : member(LEAKS, i);
    }

    public int worst(int i, int what) {
        if (i < 0 || what < 0 || what > 1) {
            return NONE;
        }
        int path = leakByWeight(i, gatherLeaks());
        if (path == NONE) {
            return NONE;
        }
        return what == 0 ? path : paths.weights[path];
    }

    /** The i-th LEAK by WEIGHTS: goes down from one WEIGHT to the next lesser one. */
    private int leakByWeight(int i, int leaks) {
        int ahead = i;
        int limit = Integer.MAX_VALUE;
        for (int round = 0; round < leaks; round++) {
            int top = NONE;
            int alike = 0;
            for (int k = 0; k < leaks; k++) {
                int weight = paths.weights[scratch[k]];
                if (weight < limit && weight > top) {
                    top = weight;
                    alike = 0;
                }
                if (weight == top) {
                    alike++;
                }
            }
            if (ahead < alike) {
                return leakOfWeight(top, ahead, leaks);
            }
            ahead -= alike;
            limit = top;
        }
        return NONE;
    }

    private int leakOfWeight(int weight, int i, int leaks) {
        int ahead = i;
        for (int k = 0; k < leaks; k++) {
            if (paths.weights[scratch[k]] == weight) {
                if (ahead == 0) {
                    return scratch[k];
                }
                ahead--;
            }
        }
        return NONE;
    }

    private int gatherLeaks() {
        int leaks = 0;
        for (int path = 0; path < paths.count; path++) {
            if (isIn(LEAKS, path)) {
                scratch[leaks] = path;
                leaks++;
            }
        }
        return leaks;
    }

    public int stopped(int path) {
        if (!isPath(path)) {
            return NONE;
        }
        int set = 0;
        for (int counter = 0; counter < COUNTERS; counter++) {
            if (isStoppedBy(path, counter)) {
                set |= 1 << counter;
            }
        }
        return set;
    }

    private boolean isStoppedBy(int path, int counter) {
        int receiver = cycle.steps[told.n * COUNTERS + counter];
        if (cycle.follows) {
            receiver = chief == NONE ? 0 : pace(chief, counter);
        }
        int pace = Math.floorMod(pace(path, counter) - receiver, cycle.units);
        sum.begin(cycle.units);
        for (int place = 0; place < cycle.lengths[counter]; place++) {
            sum.add(place * pace % cycle.units, 1);
        }
        return sum.state() == VANISHES;
    }

    /** By how much one step of a COUNTER turns a PATH. */
    private int pace(int path, int counter) {
        int all = 0;
        for (int pulse = 0; pulse < told.n; pulse++) {
            all += paths.changeOf(path, pulse) * cycle.steps[pulse * COUNTERS + counter];
        }
        return all;
    }

    public int spare(int counter) {
        if (!isCounter(counter)) {
            return NONE;
        }
        int before = cycle.lengths[counter];
        int others = cycle.scansBut(counter);
        int found = NONE;
        for (int length = 1; length <= MOST_LENGTH && found == NONE; length++) {
            if (others * length <= MOST_SCANS) {
                cycle.lengths[counter] = length;
                scans.built = false;
                if (wouldBeGood()) {
                    found = length;
                }
            }
        }
        cycle.lengths[counter] = before;
        scans.built = false;
        return found;
    }

    /** Asks the scans as they are built now, past the known states. */
    private boolean wouldBeGood() {
        if (chief == NONE) {
            return false;
        }
        buildScans();
        for (int path = 0; path < paths.count; path++) {
            if (matters(path) && (isGone(path) || earlyState(path, scans.count) == VANISHES)
                    == (told.marks[path] == WISHED)) {
                return false;
            }
        }
        return true;
    }

    public int soonest() {
        if (chief == NONE || paths.count > SEARCHED_PATHS) {
            return NONE;
        }
        buildScans();
        Arrays.fill(scratch, 0, scans.count, 1);
        for (int path = 0; path < paths.count; path++) {
            if (matters(path)) {
                if (isGone(path)) {
                    return NONE;
                }
                strikeScans(path);
            }
        }
        for (int s = 0; s < scans.count; s++) {
            if (scratch[s] == 1) {
                return s + 1;
            }
        }
        return NONE;
    }

    /** Strikes the numbers of first SCANS by which a PATH is a LEAK, or LOST. */
    private void strikeScans(int path) {
        boolean wished = told.marks[path] == WISHED;
        int[] residues = scans.residues(paths, path);
        sum.begin(cycle.units);
        for (int s = 0; s < scans.count; s++) {
            sum.add(residues[s], 1);
            if ((sum.state() == VANISHES) == wished) {
                scratch[s] = 0;
            }
        }
    }

    public int lost(int i) {
        return i == NONE ? count(LOST) : member(LOST, i);
    }

    public int early(int path, int first) {
        if (!isPath(path) || !isScan(first - 1)) {
            return NONE;
        }
        buildScans();
        return earlyState(path, first);
    }

    private int earlyState(int path, int first) {
        return sum.stateOf(scans.tally(paths, path, first), cycle.units);
    }

    public int until(int path, int at) {
        if (!isPath(path) || !isScan(at - 1)) {
            return NONE;
        }
        buildScans();
        int[] residues = scans.residues(paths, path);
        sum.begin(cycle.units);
        for (int s = 0; s < scans.count; s++) {
            sum.add(residues[s], 1);
            if (s + 1 >= at && sum.state() == VANISHES) {
                return s + 1;
            }
        }
        return NONE;
    }

    // What steps would do

    public int fewest(int what) {
        findFewest();
        if (fewestSteps.product == NONE) {
            return NONE;
        }
        if (isPulse(what)) {
            return fewestSteps.best[what];
        }
        return what == 10 ? fewestSteps.product : NONE;
    }

    public int cogs(int what) {
        findCogs();
        if (cogSteps.length == NONE) {
            return NONE;
        }
        if (isPulse(what)) {
            return cogSteps.picks[what];
        }
        return what == 10 ? cogSteps.length : NONE;
    }

    public long power(int path) {
        int t = cycle.units;
        if (!isPath(path) || (t != 2 && t != 3 && t != 4 && t != 6)) {
            return NONE;
        }
        buildScans();
        int[] counts = scans.tally(paths, path, scans.count);
        long twice = 0;
        for (int a = 0; a < t; a++) {
            for (int b = 0; b < t; b++) {
                twice += (long) counts[a] * counts[b] * twiceCosine(Math.abs(a - b), t);
            }
        }
        return twice / 2;
    }

    /** Of so many units of a turn of t units; whole for the few t that have a POWER. */
    private static int twiceCosine(int units, int t) {
        int twelfths = units * 12 / t;
        switch (twelfths) {
            case 0: return 2;
            case 2: case 10: return 1;
            case 3: case 9: return 0;
            case 4: case 8: return -1;
            default: return -2;
        }
    }

    public int would(int a, int b, int c, int d, int e) {
        int[] steps = scratch;
        steps[0] = a;
        steps[1] = b;
        steps[2] = c;
        steps[3] = d;
        steps[4] = e;
        if (chief == NONE) {
            return NONE;
        }
        for (int pulse = 0; pulse < told.n; pulse++) {
            int n = steps[pulse];
            if (n < 1 || n > MOST_LENGTH || cycle.units % n != 0) {
                return NONE;
            }
        }
        gatherWants();
        return wants.countLeft(paths, steps);
    }

    public int share(int what) {
        int below = divisor(what);
        if (below <= 0) {
            return NONE;
        }
        return bitsOfFloat((float) dividend(what) / (float) below);
    }

    public long part(int what) {
        int below = divisor(what);
        if (below <= 0) {
            return NONE;
        }
        return bitsOfDouble((double) dividend(what) / (double) below);
    }

    private int dividend(int what) {
        switch (what) {
            case 0: return count(LEAKS);
            case 1: return count(LEFT);
            case 4: return cycle.units;
            default: return cycle.countScans();
        }
    }

    private int divisor(int what) {
        switch (what) {
            case 0: case 1: return paths.count;
            case 2: findFewest(); return fewestSteps.product;
            case 3: findCogs(); return cogSteps.length;
            case 4: return cycle.countScans();
            default: return NONE;
        }
    }

    /** Of a number from 2 to the -126 on, or 0: halves and doubles it exactly till it is 1 .. 2. */
    private static int bitsOfFloat(float value) {
        if (!(value > 0)) {
            return 0;
        }
        float rest = value;
        int exponent = 127;
        for (int i = 0; i < 127 && rest >= 2; i++) {
            rest = rest / 2;
            exponent++;
        }
        for (int i = 0; i < 127 && rest < 1; i++) {
            rest = rest * 2;
            exponent--;
        }
        return (exponent << 23) | (int) ((rest - 1) * (1 << 23));
    }

    private static long bitsOfDouble(double value) {
        if (!(value > 0)) {
            return 0;
        }
        double rest = value;
        long exponent = 1023;
        for (int i = 0; i < 1023 && rest >= 2; i++) {
            rest = rest / 2;
            exponent++;
        }
        for (int i = 0; i < 1023 && rest < 1; i++) {
            rest = rest * 2;
            exponent--;
        }
        return (exponent << 52) | (long) ((rest - 1) * (double) (1L << 52));
    }

    // The whole

    public boolean image(boolean taken) {
        if (taken) {
            keptTold.copyFrom(told);
            keptCycle.copyFrom(cycle);
            kept = true;
            return true;
        }
        if (!kept) {
            return false;
        }
        told.copyFrom(keptTold);
        cycle.copyFrom(keptCycle);
        pathsTold();
        return true;
    }

    public int look(int what) {
        switch (what) {
            case 0: return told.n;
            case 1: return told.most;
            case 2: return cycle.units;
            case 3: return paths.count;
            case 4: return cycle.countScans();
            case 5: return told.countMarks(WISHED, paths.count);
            case 6: return told.countMarks(FREE, paths.count);
            case 7: return count(LEAKS);
            case 8: return count(LOST);
            case 9: return chief != NONE && count(LOST) == 0 && count(LEAKS) == 0 ? 1 : 0;
            case 10: return chief;
            case 11: return cycle.follows ? 1 : 0;
            case 12: return tape.size;
            case 13: return countWeights(LEAKS);
            case 14: return countWeights(KEPT);
            default: return lookAtParts(what);
        }
    }

    private int lookAtParts(int what) {
        if (what < 20 || what >= 60) {
            return NO_LOOK;
        }
        int part = what % 10;
        switch (what / 10) {
            case 2: return isPulse(part) ? told.kinds[part] : NO_LOOK;
            case 3: return isCounter(part) ? cycle.lengths[part] : NO_LOOK;
            case 4: return isRow(part) ? cycle.sizes[part] : NO_LOOK;
            default: return isPulse(part) ? told.gradients[part] : NO_LOOK;
        }
    }

    // What there is

    private boolean isPulse(int pulse) {
        return pulse >= 0 && pulse < told.n;
    }

    /** PULSES and, behind them, the RECEIVER. */
    private boolean isRow(int row) {
        return row >= 0 && row <= told.n;
    }

    private static boolean isCounter(int counter) {
        return counter >= 0 && counter < COUNTERS;
    }

    private boolean isPath(int path) {
        return path >= 0 && path < paths.count;
    }

    private boolean isScan(int scan) {
        return scan >= 0 && scan < cycle.countScans();
    }

    private boolean isGone(int path) {
        weighPaths();
        return paths.isGone(path);
    }

    /** WISHED ones that are GONE matter, too: they are LOST. */
    private boolean matters(int path) {
        return told.marks[path] == WISHED || (told.marks[path] == PLAIN && !isGone(path));
    }

    private boolean isIn(int group, int path) {
        int mark = told.marks[path];
        switch (group) {
            case LEAKS: return mark == PLAIN && !isGone(path) && stateOf(path) != VANISHES;
            case LOST: return mark == WISHED && (isGone(path) || stateOf(path) == VANISHES);
            case KEPT: return mark == WISHED && !isGone(path) && stateOf(path) != VANISHES;
            default: return stateOf(path) != VANISHES;
        }
    }

    private int count(int group) {
        int all = 0;
        for (int path = 0; path < paths.count; path++) {
            if (isIn(group, path)) {
                all++;
            }
        }
        return all;
    }

    private int countWeights(int group) {
        weighPaths();
        int all = 0;
        for (int path = 0; path < paths.count; path++) {
            if (isIn(group, path)) {
                all += paths.weights[path];
            }
        }
        return all;
    }

    /** The i-th of a group; NONE if it has not so many. */
    private int member(int group, int i) {
        int ahead = i;
        for (int path = 0; path < paths.count && ahead >= 0; path++) {
            if (isIn(group, path)) {
                if (ahead == 0) {
                    return path;
                }
                ahead--;
            }
        }
        return NONE;
    }

    private int stateOf(int path) {
        if (!statesKnown) {
            Arrays.fill(states, (byte) UNKNOWN);
            statesKnown = true;
        }
        if (states[path] == UNKNOWN) {
            buildScans();
            states[path] = (byte) sum.stateOf(scans.tally(paths, path, scans.count), cycle.units);
        }
        return states[path];
    }

    // What is found out when it is asked, and what makes it out of date

    private void buildScans() {
        if (!scans.built) {
            scans.build(cycle, told.n);
            if (cycle.follows) {
                scans.trackChief(paths, chief);
            }
            scans.begin();
        }
    }

    private void weighPaths() {
        if (!paths.weighed) {
            paths.weigh(told);
        }
    }

    private void gatherWants() {
        if (!wants.known) {
            weighPaths();
            wants.gather(told, paths, chief);
        }
    }

    private void findFewest() {
        if (!fewestSteps.known) {
            gatherWants();
            fewestSteps.search(wants, paths, cycle.units);
        }
    }

    private void findCogs() {
        if (!cogSteps.known) {
            gatherWants();
            cogSteps.search(wants, paths, told.marks, cycle.units);
        }
    }

    private void pathsTold() {
        paths.list(told);
        chief = told.firstWished(paths.count);
        cycleTold();
        goneTold();
    }

    private void goneTold() {
        paths.weighed = false;
        searchesTold();
    }

    private void cycleTold() {
        scans.built = false;
        statesKnown = false;
    }

    private void searchesTold() {
        wants.known = false;
        fewestSteps.known = false;
        cogSteps.known = false;
    }

    /** What was told of PULSES, and which PATHS are WISHED or FREE. */
    private static final class Pulses {
        int n = 3;
        int most = 1;
        final int[] kinds = new int[MOST_PULSES];
        final int[] gradients = new int[MOST_PULSES];
        final int[] weights = new int[MOST_PULSES * CHANGES];
        final byte[] marks = new byte[MOST_PATHS];

        Pulses() {
            Arrays.fill(weights, 1);
        }

        void begin(int pulses, int orders) {
            n = pulses;
            most = orders;
            Arrays.fill(kinds, 0);
            Arrays.fill(gradients, 0);
            Arrays.fill(weights, 1);
            unmark();
        }

        void unmark() {
            Arrays.fill(marks, (byte) PLAIN);
        }

        void copyFrom(Pulses other) {
            n = other.n;
            most = other.most;
            System.arraycopy(other.kinds, 0, kinds, 0, kinds.length);
            System.arraycopy(other.gradients, 0, gradients, 0, gradients.length);
            System.arraycopy(other.weights, 0, weights, 0, weights.length);
            System.arraycopy(other.marks, 0, marks, 0, marks.length);
        }

        int firstWished(int count) {
            for (int path = 0; path < count; path++) {
                if (marks[path] == WISHED) {
                    return path;
                }
            }
            return NONE;
        }

        int countMarks(int mark, int count) {
            int all = 0;
            for (int path = 0; path < count; path++) {
                if (marks[path] == mark) {
                    all++;
                }
            }
            return all;
        }
    }

    /** THE CYCLE, with T and whether the RECEIVER FOLLOWS. */
    private static final class Cycle {
        int units = 24;
        boolean follows = true;
        final int[] lengths = new int[COUNTERS];
        final int[] steps = new int[ROWS * COUNTERS];
        final int[] rows = new int[ROWS * MOST_NUMBERS];
        final int[] sizes = new int[ROWS];

        Cycle() {
            begin();
        }

        /** As at first; T and FOLLOWS stay. */
        void begin() {
            Arrays.fill(lengths, 1);
            Arrays.fill(steps, 0);
            Arrays.fill(rows, 0);
            Arrays.fill(sizes, 1);
        }

        void copyFrom(Cycle other) {
            units = other.units;
            follows = other.follows;
            System.arraycopy(other.lengths, 0, lengths, 0, lengths.length);
            System.arraycopy(other.steps, 0, steps, 0, steps.length);
            System.arraycopy(other.rows, 0, rows, 0, rows.length);
            System.arraycopy(other.sizes, 0, sizes, 0, sizes.length);
        }

        int countScans() {
            return lengths[0] * lengths[1] * lengths[2] * lengths[3];
        }

        /** SCANS, if one COUNTER had LENGTH 1. */
        int scansBut(int counter) {
            int all = 1;
            for (int j = 0; j < COUNTERS; j++) {
                if (j != counter) {
                    all *= lengths[j];
                }
            }
            return all;
        }

        void exchange(int a, int b) {
            int length = lengths[a];
            lengths[a] = lengths[b];
            lengths[b] = length;
            for (int row = 0; row < ROWS; row++) {
                int step = steps[row * COUNTERS + a];
                steps[row * COUNTERS + a] = steps[row * COUNTERS + b];
                steps[row * COUNTERS + b] = step;
            }
        }

        /** A ROW without numbers becomes 0 alone. */
        void takeRows(int[] numbers, int[] counts) {
            System.arraycopy(numbers, 0, rows, 0, rows.length);
            for (int row = 0; row < ROWS; row++) {
                sizes[row] = Math.max(1, counts[row]);
            }
        }

        /** PHASE by ROW and STEPS: the RECEIVER's, if it does not FOLLOW. */
        int ownPhase(int row, int scan) {
            int all = rows[row * MOST_NUMBERS + scan % sizes[row]];
            int rest = scan;
            for (int j = 0; j < COUNTERS; j++) {
                all += rest % lengths[j] * steps[row * COUNTERS + j];
                rest /= lengths[j];
            }
            return all % units;
        }
    }

    /** THE TAPE, and what the latest reading of it found. */
    private static final class Tape {
        int size = 0;
        int fault = 0;
        int faultPlace = NONE;
        private int place = 0;
        private final byte[] bytes = new byte[MOST_BYTES];
        final int[] numbers = new int[ROWS * MOST_NUMBERS];
        final int[] sizes = new int[ROWS];

        void put(int number) {
            for (int shift = 24; shift >= 0 && size < MOST_BYTES; shift -= 8) {
                bytes[size] = (byte) (number >> shift);
                size++;
            }
        }

        /** How many ROWS were told; NONE with a FAULT. */
        int read(int pulses, int units) {
            fault = 0;
            faultPlace = NONE;
            place = 0;
            Arrays.fill(numbers, 0);
            Arrays.fill(sizes, 0);
            int read = 0;
            for (int i = 0; i < MOST_BYTES; i++) {
                skipBlanks();
                if (place >= size) {
                    return read;
                }
                if (!readRow(pulses, units)) {
                    return NONE;
                }
                read++;
            }
            return read;
        }

        private boolean readRow(int pulses, int units) {
            int start = place;
            int row = readName(pulses);
            if (row == NONE) {
                return fail(CANNOT_STAND, start);
            }
            if (sizes[row] > 0) {
                return fail(TOLD_ALREADY, start);
            }
            skipBlanks();
            if (byteHere() != '=') {
                return fail(CANNOT_STAND, place);
            }
            place++;
            return readNumbers(row, units);
        }

        private int readName(int pulses) {
            int sign = byteHere();
            place++;
            if (sign == 'r') {
                return pulses;
            }
            int digit = byteHere();
            place++;
            return sign == 'p' && digit >= '1' && digit < '1' + pulses ? digit - '1' : NONE;
        }

        private boolean readNumbers(int row, int units) {
            for (int i = 0; i <= MOST_NUMBERS; i++) {
                skipBlanks();
                if (i > 0 && byteHere() == ';') {
                    place++;
                    return true;
                }
                if (!digitHere() || i == MOST_NUMBERS) {
                    return fail(CANNOT_STAND, place);
                }
                int start = place;
                int number = readNumber();
                if (number >= units) {
                    return fail(CANNOT_BE, start);
                }
                numbers[row * MOST_NUMBERS + i] = number;
                sizes[row] = i + 1;
            }
            return false;
        }

        /** A number above all T stays above them, however many digits follow. */
        private int readNumber() {
            int number = 0;
            for (int i = 0; i < MOST_BYTES && digitHere(); i++) {
                number = Math.min(number * 10 + byteHere() - '0', MOST_UNITS);
                place++;
            }
            return number;
        }

        private void skipBlanks() {
            for (int i = 0; i < MOST_BYTES && byteHere() == ' '; i++) {
                place++;
            }
        }

        private boolean digitHere() {
            int sign = byteHere();
            return sign >= '0' && sign <= '9';
        }

        /** NONE at the end. */
        private int byteHere() {
            return place < size ? bytes[place] & 255 : NONE;
        }

        private boolean fail(int what, int at) {
            fault = what;
            faultPlace = at;
            return false;
        }
    }

    /** All PATHS that KINDS leave, by their numbers. */
    private static final class Paths {
        int count = 0;
        boolean weighed = false;
        private final byte[] orders = new byte[MOST_PATHS * MOST_PULSES];
        final short[] numbers = new short[MOST_PATHS];
        final int[] weights = new int[MOST_PATHS];
        final byte[] spoiled = new byte[MOST_PATHS];

        /** Counts ORDERS like digits, that behind PULSE 0 the highest: so the numbers ascend. */
        void list(Pulses told) {
            int codes = 1;
            for (int pulse = 0; pulse < told.n - 1; pulse++) {
                codes *= 2 * told.most + 1;
            }
            count = 0;
            for (int code = 0; code < codes; code++) {
                spell(code, told);
                numbers[code] = (short) NONE;
                if (keepsKinds(told)) {
                    numbers[code] = (short) count;
                    count++;
                }
            }
        }

        /** Writes the ORDERS of a code where the next PATH will stand. */
        private void spell(int code, Pulses told) {
            int base = 2 * told.most + 1;
            int rest = code;
            int start = count * MOST_PULSES;
            orders[start + told.n - 1] = -1;
            for (int pulse = told.n - 2; pulse >= 0; pulse--) {
                orders[start + pulse] = (byte) (rest % base - told.most);
                rest /= base;
            }
        }

        private boolean keepsKinds(Pulses told) {
            int ahead = 0;
            for (int pulse = 0; pulse < told.n; pulse++) {
                int behind = orderOf(count, pulse);
                int kind = told.kinds[pulse];
                if (kind == TURNING && behind != -ahead) {
                    return false;
                }
                if (kind == NEAR && Math.abs(behind - ahead) > 1) {
                    return false;
                }
                ahead = behind;
            }
            return true;
        }

        void weigh(Pulses told) {
            for (int path = 0; path < count; path++) {
                int weight = 1;
                int slope = 0;
                for (int pulse = 0; pulse < told.n; pulse++) {
                    weight *= told.weights[pulse * CHANGES + Math.abs(changeOf(path, pulse))];
                    slope += orderOf(path, pulse) * told.gradients[pulse];
                }
                weights[path] = weight;
                spoiled[path] = (byte) (slope != 0 ? 1 : 0);
            }
            weighed = true;
        }

        /** Right once the PATHS are weighed. */
        boolean isGone(int path) {
            return spoiled[path] != 0 || weights[path] == 0;
        }

        int orderOf(int path, int pulse) {
            return orders[path * MOST_PULSES + pulse];
        }

        int changeOf(int path, int pulse) {
            int at = path * MOST_PULSES + pulse;
            return pulse == 0 ? orders[at] : orders[at] - orders[at - 1];
        }

        int countChanges(int path, int n) {
            int changes = 0;
            for (int pulse = 0; pulse < n; pulse++) {
                if (changeOf(path, pulse) != 0) {
                    changes++;
                }
            }
            return changes;
        }

        int greatestOrder(int path, int n) {
            int greatest = 0;
            for (int pulse = 0; pulse < n; pulse++) {
                greatest = Math.max(greatest, Math.abs(orderOf(path, pulse)));
            }
            return greatest;
        }
    }

    /**
     * A sum of whole turns, cut into units. It is nothing just if, times all (1 - z to the units / p) for
     * the primes p of the units, it is nothing as a polynomial modulo z to the units, less 1: those factors
     * are 0 for all roots but the primitive ones, and there they are not.
     */
    private static final class Sum {
        private int units = 0;
        private int terms = 0;
        private final int[] shifts = new int[8];
        private final int[] signs = new int[8];
        private final int[] turned = new int[MOST_UNITS];
        private int alive = 0;
        private int first = NONE;
        private boolean mixed = false;

        void begin(int t) {
            if (t != units) {
                factor(t);
            }
            Arrays.fill(turned, 0);
            alive = 0;
            first = NONE;
            mixed = false;
        }

        private void factor(int t) {
            units = t;
            terms = 1;
            shifts[0] = 0;
            signs[0] = 1;
            int rest = t;
            for (int p = 2; p <= t; p++) {
                if (rest % p == 0 && 2 * terms <= shifts.length) {
                    for (int i = 0; i < terms; i++) {
                        shifts[terms + i] = (shifts[i] + t / p) % t;
                        signs[terms + i] = -signs[i];
                    }
                    terms *= 2;
                }
                for (int i = 0; i < MOST_UNITS && rest % p == 0; i++) {
                    rest /= p;
                }
            }
        }

        void add(int residue, int times) {
            for (int i = 0; i < terms; i++) {
                int at = (residue + shifts[i]) % units;
                int before = turned[at];
                int after = before + signs[i] * times;
                turned[at] = after;
                if (before == 0) {
                    alive++;
                }
                if (after == 0) {
                    alive--;
                }
            }
            if (first == NONE) {
                first = residue;
            } else if (first != residue) {
                mixed = true;
            }
        }

        /** By how often each residue is there. */
        int stateOf(int[] counts, int t) {
            begin(t);
            for (int residue = 0; residue < t; residue++) {
                if (counts[residue] > 0) {
                    add(residue, counts[residue]);
                }
            }
            return state();
        }

        int state() {
            if (alive == 0) {
                return VANISHES;
            }
            return mixed ? PARTLY : WHOLE;
        }
    }

    /** PHASES at all SCANS, and the RESIDUES of one PATH after another. */
    private static final class Scans {
        boolean built = false;
        int count = 0;
        private int units = 1;
        private int n = 0;
        private int latest = NONE;
        final int[][] phases = new int[ROWS][MOST_SCANS];
        /** Row k: what the RECEIVER and the first k PULSES do to the latest PATH. */
        private final int[][] turned = new int[ROWS][MOST_SCANS];
        private final int[] counts = new int[MOST_UNITS];

        void build(Cycle cycle, int pulses) {
            count = cycle.countScans();
            units = cycle.units;
            n = pulses;
            for (int row = 0; row <= n; row++) {
                for (int s = 0; s < count; s++) {
                    phases[row][s] = cycle.ownPhase(row, s);
                }
            }
        }

        /** The RECEIVER's PHASES by CHIEF's CHANGES. */
        void trackChief(Paths paths, int chief) {
            Arrays.fill(phases[n], 0);
            for (int pulse = 0; pulse < n && chief != NONE; pulse++) {
                addPulse(pulse, paths.changeOf(chief, pulse), phases[n], phases[n]);
            }
        }

        void begin() {
            for (int s = 0; s < count; s++) {
                turned[0][s] = (units - phases[n][s]) % units;
            }
            latest = NONE;
            built = true;
        }

        private void addPulse(int pulse, int change, int[] from, int[] to) {
            int times = (change + CHANGES * units) % units;
            int[] row = phases[pulse];
            for (int s = 0; s < count; s++) {
                to[s] = (from[s] + times * row[s]) % units;
            }
        }

        /** Goes on from where the latest PATH went the same way: neighbours share most of it. */
        int[] residues(Paths paths, int path) {
            int pulse = 0;
            if (latest != NONE) {
                for (; pulse < n && paths.changeOf(path, pulse) == paths.changeOf(latest, pulse); pulse++) {
                    continue;
                }
            }
            for (; pulse < n; pulse++) {
                addPulse(pulse, paths.changeOf(path, pulse), turned[pulse], turned[pulse + 1]);
            }
            latest = path;
            return turned[n];
        }

        /** How often each RESIDUE is there in the first SCANS. */
        int[] tally(Paths paths, int path, int firstScans) {
            int[] residues = residues(paths, path);
            Arrays.fill(counts, 0);
            for (int s = 0; s < firstScans; s++) {
                counts[residues[s]]++;
            }
            return counts;
        }
    }

    /** What steps must leave and what not: what FEWEST and COGS both ask. */
    private static final class Wants {
        boolean known = false;
        /** Something is WISHED, and nothing WISHED is GONE. */
        boolean possible = false;
        int n = 0;
        private int count = 0;
        private final int[] chiefs = new int[MOST_PULSES];
        /** What N of a PULSE must divide, so that all WISHED ones are left. */
        final int[] common = new int[MOST_PULSES];
        int othersCount = 0;
        final int[] others = new int[MOST_PATHS];
        /** The last PULSE at which a PATH's CHANGE is another than CHIEF's (NONE: CHIEF itself). */
        final byte[] last = new byte[MOST_PATHS];

        void gather(Pulses told, Paths paths, int chief) {
            known = true;
            n = told.n;
            count = paths.count;
            possible = chief != NONE;
            othersCount = 0;
            Arrays.fill(common, 0);
            if (chief == NONE) {
                return;
            }
            for (int pulse = 0; pulse < n; pulse++) {
                chiefs[pulse] = paths.changeOf(chief, pulse);
            }
            for (int path = 0; path < count; path++) {
                sort(told, paths, path);
            }
        }

        private void sort(Pulses told, Paths paths, int path) {
            boolean gone = paths.isGone(path);
            boolean wished = told.marks[path] == WISHED;
            last[path] = (byte) NONE;
            for (int pulse = 0; pulse < n; pulse++) {
                int gap = gap(paths, path, pulse);
                if (gap != 0) {
                    last[path] = (byte) pulse;
                }
                if (wished) {
                    common[pulse] = divisorOf(common[pulse], Math.abs(gap));
                }
            }
            if (wished && gone) {
                possible = false;
            }
            if (told.marks[path] == PLAIN && !gone) {
                others[othersCount] = path;
                othersCount++;
            }
        }

        int gap(Paths paths, int path, int pulse) {
            return paths.changeOf(path, pulse) - chiefs[pulse];
        }

        private static int divisorOf(int a, int b) {
            int greater = a;
            int lesser = b;
            for (int i = 0; i < 100 && lesser != 0; i++) {
                int rest = greater % lesser;
                greater = lesser;
                lesser = rest;
            }
            return greater;
        }

        int countLeft(Paths paths, int[] steps) {
            int left = 0;
            for (int i = 0; i < othersCount; i++) {
                boolean is = true;
                for (int pulse = 0; pulse < n && is; pulse++) {
                    is = gap(paths, others[i], pulse) % steps[pulse] == 0;
                }
                if (is) {
                    left++;
                }
            }
            return left;
        }

        /**
         * Of the first others, puts those that a PULSE leaves ahead: how many. NONE if there is one among
         * them that no later PULSE can stop.
         */
        int keepLeft(Paths paths, int pulse, int steps, int first) {
            int left = 0;
            for (int i = 0; i < first; i++) {
                int path = others[i];
                if (gap(paths, path, pulse) % steps == 0) {
                    if (last[path] <= pulse) {
                        return NONE;
                    }
                    others[i] = others[left];
                    others[left] = path;
                    left++;
                }
            }
            return left;
        }
    }

    /** FEWEST. */
    private static final class Fewest {
        boolean known = false;
        /** NONE if there are no such numbers. */
        int product = NONE;
        final int[] best = new int[MOST_PULSES];
        private final int[] picks = new int[MOST_PULSES];
        private int limit = 0;

        void search(Wants wants, Paths paths, int units) {
            known = true;
            product = NONE;
            limit = Integer.MAX_VALUE;
            if (wants.possible) {
                pick(this, wants, paths, units, 0, wants.othersCount, 1);
            }
        }

        /** Lesser numbers come first, and only a lesser product counts: so of several the right one stays. */
        private static void pick(Fewest f, Wants wants, Paths paths, int units, int pulse, int left, int product) {
            if (pulse >= wants.n) {
                f.product = product;
                f.limit = product;
                System.arraycopy(f.picks, 0, f.best, 0, f.best.length);
                return;
            }
            for (int steps = 1; steps <= MOST_LENGTH && product * steps < f.limit; steps++) {
                if (units % steps == 0 && wants.common[pulse] % steps == 0) {
                    int still = wants.keepLeft(paths, pulse, steps, left);
                    if (still != NONE) {
                        f.picks[pulse] = steps;
                        pick(f, wants, paths, units, pulse + 1, still, product * steps);
                    }
                }
            }
        }
    }

    /** COGS. */
    private static final class Cogs {
        boolean known = false;
        /** NONE if there are no such numbers. */
        int length = NONE;
        final int[] picks = new int[MOST_PULSES];
        /** PATHS by their last PULSE that differs from CHIEF's, and where those of each PULSE begin. */
        private final int[] sorted = new int[SEARCHED_PATHS];
        private final int[] starts = new int[MOST_PULSES + 1];

        void search(Wants wants, Paths paths, byte[] marks, int units) {
            known = true;
            length = NONE;
            if (!wants.possible || paths.count > SEARCHED_PATHS) {
                return;
            }
            sortOut(wants, paths, marks);
            for (int l = 1; l <= MOST_LENGTH && length == NONE; l++) {
                if (units % l == 0 && pick(this, wants, paths, marks, l, 0)) {
                    length = l;
                }
            }
        }

        private void sortOut(Wants wants, Paths paths, byte[] marks) {
            int count = 0;
            for (int pulse = 0; pulse < wants.n; pulse++) {
                starts[pulse] = count;
                for (int path = 0; path < paths.count; path++) {
                    boolean asked = marks[path] == WISHED
                            || (marks[path] == PLAIN && !paths.isGone(path));
                    if (asked && wants.last[path] == pulse) {
                        sorted[count] = path;
                        count++;
                    }
                }
            }
            starts[wants.n] = count;
        }

        /** PULSE 0 needs 0 alone: CHANGES of all PATHS add up to -1, so W that all are one more do the same. */
        private static boolean pick(Cogs c, Wants wants, Paths paths, byte[] marks, int length, int pulse) {
            if (pulse >= wants.n) {
                return true;
            }
            int most = pulse == 0 ? 1 : length;
            for (int w = 0; w < most; w++) {
                c.picks[pulse] = w;
                if (c.fits(wants, paths, marks, length, pulse)
                        && pick(c, wants, paths, marks, length, pulse + 1)) {
                    return true;
                }
            }
            return false;
        }

        /** Asks the PATHS whose turning is settled by the PULSES up to this one. */
        private boolean fits(Wants wants, Paths paths, byte[] marks, int length, int pulse) {
            for (int i = starts[pulse]; i < starts[pulse + 1]; i++) {
                int all = 0;
                for (int k = 0; k <= pulse; k++) {
                    all += wants.gap(paths, sorted[i], k) * picks[k];
                }
                if ((all % length == 0) != (marks[sorted[i]] == WISHED)) {
                    return false;
                }
            }
            return true;
        }
    }
}
