import java.util.ArrayList;
import java.util.List;
import java.util.function.Supplier;
import java.util.function.ToLongFunction;

/**
 * Each sentence of the document's Promises that names a boundary case: the last that can be and the first that can't;
 * and of each refused call that it changed nothing, by all that can be asked.
 */
public final class BoundsTest {
    private static final int NONE = -1;
    private static final int NO_ORDER = -10;
    private static final int NO_LOOK = -100;
    private static final int LOW = Integer.MIN_VALUE;
    private static final int HIGH = Integer.MAX_VALUE;
    private static final Checks SEEN = new Checks();

    public static void main(String[] args) {
        newObject();
        pulsesRefused();
        kindRefused();
        turnRefused();
        counterRefused();
        stepRefused();
        gradientRefused();
        weightRefused();
        swapRefused();
        swapTakesAllSteps();
        swapOfTwoAlike();
        followSoAlready();
        wishSoAlready();
        wishAndFreeExclude();
        freeSoAlready();
        freeAllRefused();
        freeAllCountsThoseThatBecameSo();
        feedRefused();
        feedPutsTheHighestByteFirst();
        endRefused();
        endOfAllAndOfNone();
        rowsOfNoneAndOfAll();
        rowsRefused();
        rowsEmptiesTheTape();
        faultOfTheLatestRows();
        layRefused();
        layRefusesFiveCounters();
        layRefusesMoreThan512Scans();
        layOfOneScan();
        layOfTheGreatest();
        laidAllElseIsAsAtFirst();
        orderRefused();
        findRefused();
        findAsksAllButTheLast();
        phaseRefused();
        residueRefused();
        residueOfTheLast();
        manyRefused();
        manyAddUpToScans();
        pathRefused();
        pathTellsItsGreatestOrder();
        leakRefused();
        worstRefused();
        worstOfSeveralTheLeastNumber();
        stoppedRefused();
        spareRefused();
        spareIsOneToTwelve();
        spareWithin512Scans();
        soonestIsOneToScans();
        soonestWithoutOne();
        fewerPathsThanBefore();
        lostRefused();
        earlyRefused();
        earlyOfTheFirstAndOfAll();
        untilRefused();
        untilFromAtOn();
        fewestRefused();
        cogsRefused();
        powerRefused();
        wouldRefused();
        wouldAsksNoneBehindTheLast();
        shareAndPartRefused();
        shareAndPartOfNoneAndOfAll();
        imageRefused();
        imageOfTheStart();
        lookRefused();
        lookAtTheGreatest();
        callsToThe512th();
        SEEN.end("BoundsTest");
    }

    private static void due(String call, long got, long want) {
        SEEN.due(call, got, want);
    }

    private static void due(String call, boolean got, boolean want) {
        SEEN.due(call, got, want);
    }

    /** The call answers so on an object that was told so, and all else answers as if it had not been called. */
    private static void refused(Supplier<PathCycle> told, String call, ToLongFunction<PathCycle> asked, long want) {
        due(call, asked.applyAsLong(told.get()), want);
        String change = Whole.changeBy(told, asked);
        due("behind " + call + ": " + change, change == null, true);
    }

    private static void refusedOfRich(String call, ToLongFunction<PathCycle> asked, long want) {
        refused(BoundsTest::rich, call, asked, want);
    }

    private static int bit(boolean is) {
        return is ? 1 : 0;
    }

    private static String named(String call, int... arguments) {
        List<String> all = new ArrayList<>();
        for (int a : arguments) {
            all.add(String.valueOf(a));
        }
        return call + "(" + String.join(", ", all) + ")";
    }

    /** Some of all that can be told: 3 PULSES, M 3, T 12, 21 PATHS, 48 SCANS, an IMAGE, a FAULT, 6 bytes; 5 LEAKS,
     * 10 is LOST, 13 not. */
    private static PathCycle rich() {
        PathCycle x = new PathCycle();
        x.pulses(2, 2);
        x.turn(10);
        x.kind(1, 2);
        x.wish(1, true);
        x.free(2, true);
        x.gradient(0, 3);
        x.weight(1, 1, 6);
        Tell.lengths(x, 1, 1, 5);
        Tell.steps(x, 1, 2, 3, 4, 5, 6, 7, 8, 9, 1, 2, 3);
        Tell.rows(x, "p1=7 8;r=9;");
        x.follow(false);
        x.image(true);
        x.pulses(3, 3);
        x.turn(12);
        x.kind(2, 2);
        x.gradient(1, 3);
        x.gradient(2, -3);
        x.weight(0, 1, 7);
        x.weight(1, 4, 5);
        x.weight(2, 0, 2);
        x.wish(10, true);
        x.wish(13, true);
        x.free(12, true);
        x.free(0, true);
        Tell.lengths(x, 4, 1, 12);
        Tell.steps(x, 1, 2, 3, 4, 5, 6, 7, 8, 9, 10, 11, 1, 2, 3, 4, 5);
        Tell.rows(x, "p1=7 8 9 10 11;r=3 2;");
        Tell.rows(x, "p1=7 99;");
        Tell.tape(x, "p2=11;");
        return Whole.asked(x);
    }

    // 1

    /** "Three PULSES, M 1, T 24"; all else as Terms say "at first". */
    private static void newObject() {
        PathCycle x = new PathCycle();
        due("PULSES", x.look(0), 3);
        due("no fourth one", x.look(23), NO_LOOK);
        due("M", x.look(1), 1);
        due("T", x.look(2), 24);
        due("PATHS", x.look(3), 9);
        due("THE TAPE is empty", x.look(12), 0);
        due("no FAULT", x.fault(0), 0);
        due("without a place", x.fault(1), NONE);
        due("no IMAGE", x.image(false), false);
        String change = Whole.difference(Whole.of(PathCycle::new), Whole.of(() -> {
            PathCycle told = new PathCycle();
            told.pulses(5, 3);
            told.turn(48);
            told.pulses(3, 1);
            told.turn(24);
            return told;
        }));
        due("as told so: " + change, change == null, true);
        PathCycle other = rich();
        due("objects share nothing", new PathCycle().look(4) * 100 + other.look(4), 148);
    }

    // 2 .. 8

    private static void pulsesRefused() {
        int[][] wrong = {{0, 1}, {6, 1}, {-1, 1}, {LOW, 1}, {HIGH, 1}, {3, 0}, {3, 4}, {3, -1}, {3, LOW}, {3, HIGH}, {0, 0}};
        for (int[] w : wrong) {
            refusedOfRich(named("pulses", w), x -> x.pulses(w[0], w[1]), NONE);
        }
        due("pulses(1, 1)", rich().pulses(1, 1), 1);
        due("pulses(5, 3)", rich().pulses(5, 3), 2401);
        due("pulses(1, 3)", rich().pulses(1, 3), 1);
        due("pulses(5, 1)", rich().pulses(5, 1), 81);
    }

    private static void kindRefused() {
        int[][] wrong = {{-1, 0}, {3, 0}, {LOW, 0}, {HIGH, 0}, {0, -1}, {0, 3}, {0, LOW}, {0, HIGH}, {2, 3}};
        for (int[] w : wrong) {
            refusedOfRich(named("kind", w), x -> bit(x.kind(w[0], w[1])), 0);
        }
        for (int k = 0; k <= 2; k++) {
            for (int kind = 0; kind <= 2; kind++) {
                PathCycle x = rich();
                due(named("kind", k, kind), x.kind(k, kind), true);
                due(named("KIND", k, kind), x.look(20 + k), kind);
            }
        }
    }

    private static void turnRefused() {
        int[] wrong = {1, 0, -1, -2, 49, LOW, HIGH};
        for (int t : wrong) {
            refusedOfRich(named("turn", t), x -> bit(x.turn(t)), 0);
        }
        due("turn(2)", rich().turn(2), true);
        due("turn(48)", rich().turn(48), true);
        PathCycle x = rich();
        due("turn as it is", x.turn(12), true);
        due("turn as it is: SCANS", x.look(4), 1);
    }

    private static void counterRefused() {
        int[][] wrong = {{-1, 1}, {4, 1}, {LOW, 1}, {HIGH, 1}, {0, 0}, {0, -1}, {0, 13}, {0, LOW}, {0, HIGH}, {1, 11},
            {3, 12}};
        for (int[] w : wrong) {
            refusedOfRich(named("counter", w), x -> x.counter(w[0], w[1]), NONE);
        }
        due("counter(1, 10): 480 SCANS", rich().counter(1, 10), 480);
        due("counter(2, 12) as it is", rich().counter(2, 12), 48);
        due("counter(3, 1) as it is", rich().counter(3, 1), 48);
        due("counter(0, 1)", rich().counter(0, 1), 12);
        due("counter(0, 10)", rich().counter(0, 10), 120);
    }

    private static void stepRefused() {
        int[][] wrong = {{-1, 0, 1}, {4, 0, 1}, {LOW, 0, 1}, {HIGH, 0, 1}, {0, -1, 1}, {0, 4, 1}, {0, LOW, 1},
            {0, HIGH, 1}, {0, 0, -1}, {0, 0, 12}, {0, 0, LOW}, {0, 0, HIGH}, {3, 3, 12}, {3, 4, 0}};
        for (int[] w : wrong) {
            refusedOfRich(named("step", w), x -> bit(x.step(w[0], w[1], w[2])), 0);
        }
        int[][] last = {{0, 0, 0}, {0, 0, 11}, {3, 0, 11}, {3, 3, 0}, {0, 3, 11}};
        for (int[] w : last) {
            PathCycle x = rich();
            due(named("step", w), x.step(w[0], w[1], w[2]), true);
            Tell.rows(x, "p2=0;");
            Tell.rows(x, "");
            Tell.lengths(x, 1, 1, 1, 1);
            x.counter(w[1], 2);
            due(named("STEP", w), x.phase(w[0], 1), w[2]);
        }
        PathCycle x = rich();
        due("step as it is", x.step(0, 0, 1), true);
    }

    private static void gradientRefused() {
        int[][] wrong = {{-1, 0}, {3, 0}, {LOW, 0}, {HIGH, 0}, {0, -10}, {0, 10}, {0, LOW}, {0, HIGH}, {2, 10}};
        for (int[] w : wrong) {
            refusedOfRich(named("gradient", w), x -> bit(x.gradient(w[0], w[1])), 0);
        }
        int[][] last = {{0, -9}, {0, 9}, {2, -9}, {2, 9}, {0, 0}, {0, 2}};
        for (int[] w : last) {
            PathCycle x = rich();
            due(named("gradient", w), x.gradient(w[0], w[1]), true);
            due(named("GRADIENT", w), x.look(50 + w[0]), w[1]);
            due(named("WISHED behind gradient", w), x.look(5), 2);
        }
    }

    private static void weightRefused() {
        int[][] wrong = {{-1, 0, 1}, {3, 0, 1}, {LOW, 0, 1}, {HIGH, 0, 1}, {0, -1, 1}, {0, 7, 1}, {0, LOW, 1},
            {0, HIGH, 1}, {0, 0, -1}, {0, 0, 10}, {0, 0, LOW}, {0, 0, HIGH}, {2, 7, 1}, {2, 6, 10}};
        for (int[] w : wrong) {
            refusedOfRich(named("weight", w), x -> bit(x.weight(w[0], w[1], w[2])), 0);
        }
        int[][] last = {{0, 0, 0}, {0, 0, 9}, {0, 6, 9}, {2, 0, 9}, {2, 6, 9}, {0, 1, 7}};
        for (int[] w : last) {
            PathCycle x = rich();
            due(named("weight", w), x.weight(w[0], w[1], w[2]), true);
            due(named("WISHED behind weight", w), x.look(5), 2);
        }
    }

    // 9 .. 13

    private static void swapRefused() {
        int[][] wrong = {{0, 0}, {3, 3}, {-1, 0}, {0, -1}, {4, 0}, {0, 4}, {4, 4}, {-1, -1}, {LOW, 0}, {0, LOW}, {HIGH, 0},
            {0, HIGH}};
        for (int[] w : wrong) {
            refusedOfRich(named("swap", w), x -> bit(x.swap(w[0], w[1])), 0);
        }
    }

    /** "Two COUNTERS swap LENGTHS and all STEPS": of all PULSES and the RECEIVER; nothing else. */
    private static void swapTakesAllSteps() {
        int[][] pairs = {{0, 3}, {3, 0}, {1, 2}, {2, 3}};
        for (int[] w : pairs) {
            String change = Whole.difference(Whole.of(() -> {
                PathCycle x = rich();
                due(named("swap", w), x.swap(w[0], w[1]), true);
                return x;
            }), Whole.of(() -> {
                int[] lengths = {4, 1, 12, 1};
                int[] steps = {1, 2, 3, 4, 5, 6, 7, 8, 9, 10, 11, 1, 2, 3, 4, 5};
                exchange(lengths, w[0], w[1]);
                for (int row = 0; row < 16; row += 4) {
                    exchange(steps, row + w[0], row + w[1]);
                }
                PathCycle x = rich();
                Tell.lengths(x, lengths);
                Tell.steps(x, steps);
                return x;
            }));
            due("behind " + named("swap", w) + ": " + change, change == null, true);
            String back = Whole.changeBy(BoundsTest::rich, x -> bit(x.swap(w[0], w[1])) + bit(x.swap(w[1], w[0])));
            due("swapped back: " + back, back == null, true);
        }
    }

    /** Two that are alike are not one. */
    private static void swapOfTwoAlike() {
        refused(PathCycle::new, "swap(0, 1) of two alike", x -> bit(x.swap(0, 1)), 1);
        refusedOfRich("swap(1, 1)", x -> bit(x.swap(1, 1)), 0);
        Supplier<PathCycle> alike = () -> {
            PathCycle x = rich();
            x.counter(2, 4);
            for (int row = 0; row <= 3; row++) {
                x.step(row, 0, 5 + row);
                x.step(row, 2, 5 + row);
            }
            return x;
        };
        refused(alike, "swap(2, 0) of two alike", x -> bit(x.swap(2, 0)), 1);
    }

    private static void exchange(int[] row, int a, int b) {
        int kept = row[a];
        row[a] = row[b];
        row[b] = kept;
    }

    /** "true; false if it is so already". */
    private static void followSoAlready() {
        refusedOfRich("follow(false)", x -> bit(x.follow(false)), 0);
        refused(PathCycle::new, "follow(true)", x -> bit(x.follow(true)), 0);
        PathCycle x = rich();
        due("follow(true)", x.follow(true), true);
        due("follow(true) again", x.follow(true), false);
        due("it FOLLOWS", x.look(11), 1);
        due("it does not", rich().look(11), 0);
        String back = Whole.changeBy(BoundsTest::rich, y -> bit(y.follow(true)) + bit(y.follow(false)));
        due("and back: " + back, back == null, true);
    }

    /** "true; false if it is so already, or there is none such": 10 is WISHED, 12 FREE, 5 neither; 0 .. 20. */
    private static void wishSoAlready() {
        int[] none = {-1, 21, LOW, HIGH};
        for (int path : none) {
            refusedOfRich("wish(" + path + ", true)", x -> bit(x.wish(path, true)), 0);
            refusedOfRich("wish(" + path + ", false)", x -> bit(x.wish(path, false)), 0);
        }
        refusedOfRich("wish(10, true) of a WISHED one", x -> bit(x.wish(10, true)), 0);
        refusedOfRich("wish(12, false) of a FREE one", x -> bit(x.wish(12, false)), 0);
        refusedOfRich("wish(5, false) of neither", x -> bit(x.wish(5, false)), 0);
        int[] both = {0, 5, 20};
        for (int path : both) {
            PathCycle x = rich();
            due("wish(" + path + ", true)", x.wish(path, true), true);
            due("WISHED " + path, x.path(path, 1), 1);
            due("wish(" + path + ", false)", x.wish(path, false), true);
            due("not WISHED " + path, x.path(path, 1), 0);
            due("not WISHED already " + path, x.wish(path, false), false);
        }
    }

    /** "(not FREE any more then, if it is)"; "(not WISHED any more then, if it is)". */
    private static void wishAndFreeExclude() {
        PathCycle x = rich();
        due("wish a FREE one", x.wish(12, true), true);
        due("FREE no more", x.path(12, 2), 0);
        due("WISHED", x.path(12, 1), 1);
        due("FREE ones", x.look(6), 1);
        due("it is not FREE already", x.free(12, false), false);
        due("not WISHED any more", x.wish(12, false), true);
        due("FREE does not come back", x.path(12, 2), 0);
        due("free a WISHED one", x.free(10, true), true);
        due("WISHED no more", x.path(10, 1), 0);
        due("FREE", x.path(10, 2), 1);
        due("WISHED ones", x.look(5), 1);
        due("CHIEF", x.look(10), 13);
        due("not FREE any more", x.free(10, false), true);
        due("WISHED does not come back", x.path(10, 1), 0);
    }

    private static void freeSoAlready() {
        int[] none = {-1, 21, LOW, HIGH};
        for (int path : none) {
            refusedOfRich("free(" + path + ", true)", x -> bit(x.free(path, true)), 0);
            refusedOfRich("free(" + path + ", false)", x -> bit(x.free(path, false)), 0);
        }
        refusedOfRich("free(12, true) of a FREE one", x -> bit(x.free(12, true)), 0);
        refusedOfRich("free(10, false) of a WISHED one", x -> bit(x.free(10, false)), 0);
        refusedOfRich("free(5, false) of neither", x -> bit(x.free(5, false)), 0);
        int[] both = {13, 5, 20};
        for (int path : both) {
            PathCycle x = rich();
            due("free(" + path + ", true)", x.free(path, true), true);
            due("FREE " + path, x.path(path, 2), 1);
            due("free(" + path + ", false)", x.free(path, false), true);
            due("not FREE " + path, x.path(path, 2), 0);
            due("not FREE already " + path, x.free(path, false), false);
        }
    }

    private static void freeAllRefused() {
        int[][] wrong = {{-1, 0}, {3, -1}, {LOW, 0}, {HIGH, 0}, {0, -4}, {0, 4}, {2, 4}, {0, LOW}, {0, HIGH}};
        for (int[] w : wrong) {
            refusedOfRich(named("freeAll", w), x -> x.freeAll(w[0], w[1]), NONE);
        }
    }

    /** "All PATHS that have an ORDER behind a PULSE are FREE (WISHED ones stay): how many became so." */
    private static void freeAllCountsThoseThatBecameSo() {
        PathCycle x = rich();
        due("-3 behind PULSE 0: one is FREE already", x.freeAll(0, -3), 2);
        due("none becomes so again", x.freeAll(0, -3), 0);
        due("3 behind PULSE 0", x.freeAll(0, 3), 3);
        due("0 behind PULSE 0: 10 is WISHED", x.freeAll(0, 0), 2);
        due("WISHED ones stay", x.look(5), 2);
        due("-1 behind the last PULSE: all others", x.freeAll(2, -1), 10);
        due("all are WISHED or FREE", x.look(5) + x.look(6), 21);
        due("0 behind the last PULSE: none has it", x.freeAll(2, 0), 0);
        x.kind(2, 1);
        due("TURNING to -1: 1 behind PULSE 1 alone", x.freeAll(1, 1), 7);
        due("not 0", x.freeAll(1, 0), 0);
    }

    // 14 .. 17

    private static PathCycle withTape(int bytes) {
        PathCycle x = rich();
        x.end(0);
        Tell.tape(x, "p2=9;" + " ".repeat(bytes - 5));
        return x;
    }

    private static void feedRefused() {
        int[] sizes = {381, 382, 399, 400};
        for (int bytes : sizes) {
            refused(() -> withTape(bytes), "feed behind " + bytes, x -> x.feed(0x70313d31, 1, 2, 3, 4), NONE);
        }
        due("feed behind 380", withTape(380).feed(1, 2, 3, 4, 5), 400);
        due("feed behind 379", withTape(379).feed(1, 2, 3, 4, 5), 399);
        due("feed behind none", new PathCycle().feed(1, 2, 3, 4, 5), 20);
    }

    /** "four of each number, the highest first": by the place of the one that can't stand there. */
    private static void feedPutsTheHighestByteFirst() {
        int[] highest = {0x70, 0xff, 0x80, 0x00, 0x7f, 0x21};
        for (int i = 0; i < 20; i++) {
            for (int bad : highest) {
                PathCycle x = new PathCycle();
                int[] five = {0x20202020, 0x20202020, 0x20202020, 0x20202020, 0x20202020};
                five[i / 4] ^= (0x20 ^ bad) << 24 - i % 4 * 8;
                x.feed(five[0], five[1], five[2], five[3], five[4]);
                due("a byte " + bad + " at " + i, x.rows(), NONE);
                due("its place", x.fault(1), i);
            }
        }
        PathCycle x = new PathCycle();
        x.feed(LOW, HIGH, -1, 0, 1);
        due("0x80 first", x.rows() + x.fault(1), NONE);
        x.feed(0x70313d32, 0x333b7032, 0x3d313b70, 0x333d3220, 0x343b2020);
        due("p1=23;p2=1;p3=2 4;", x.rows(), 3);
        due("p1", x.phase(0, 0), 23);
        due("p2", x.phase(1, 0), 1);
        due("p3", x.phase(2, 0), 2);
        due("p3 has two", x.look(42), 2);
    }

    private static void endRefused() {
        int[] wrong = {-1, LOW, 7, 8, 400, 401, HIGH};
        for (int n : wrong) {
            refusedOfRich(named("end", n), x -> bit(x.end(n)), 0);
        }
        int[] empty = {1, -1, 20, 400, LOW, HIGH};
        for (int n : empty) {
            refused(PathCycle::new, "empty: " + named("end", n), x -> bit(x.end(n)), 0);
        }
        refused(() -> withTape(400), "full: end(401)", x -> bit(x.end(401)), 0);
    }

    /** "THE TAPE has its first n bytes alone": of all that it has, and 0. */
    private static void endOfAllAndOfNone() {
        String change = Whole.changeBy(BoundsTest::rich, x -> bit(x.end(6)));
        due("end(6) of 6: " + change, change == null, true);
        due("end(6) of 6", rich().end(6), true);
        PathCycle x = rich();
        due("end(5)", x.end(5), true);
        due("5 bytes", x.look(12), 5);
        due("6 no more", x.end(6), false);
        due("the last is gone", x.rows(), NONE);
        due("the end is at 5", x.fault(1), 5);
        x.feed(0x70313d31, 0x3b000000, 0, 0, 0);
        due("end(0)", x.end(0), true);
        due("end(0) of none", x.end(0), true);
        due("none are ROWS", x.rows(), 0);
        x = withTape(400);
        due("end(400) of 400", x.end(400), true);
        due("end(399) of 400", x.end(399), true);
        x.end(0);
        Tell.tape(x, "p1=1;");
        x.end(3);
        Tell.tape(x, "2;");
        due("what comes behind is behind the first 3", x.rows(), 1);
        due("p1=2;", x.phase(0, 0), 2);
    }

    /** "THE TAPE (it is empty then) are ROWS: how many were told": 0 .. n and one. */
    private static void rowsOfNoneAndOfAll() {
        for (int n = 1; n <= 5; n++) {
            PathCycle x = new PathCycle();
            x.pulses(n, 1);
            due("none", x.rows(), 0);
            StringBuilder all = new StringBuilder();
            for (int k = n; k >= 1; k--) {
                all.append("p").append(k).append("=").append(k).append(";");
                due(k + " to " + n, Tell.rows(x, all.toString()), n - k + 1);
                due("ROW told", x.phase(k - 1, 0), k);
            }
            due("all", Tell.rows(x, all + "r=23;"), n + 1);
            due("one more", Tell.rows(x, all + "r=23;r=23;"), NONE);
            due("it was told already", x.fault(0), 3);
            due("the first of all", x.phase(0, 0), 1);
        }
    }

    /** "NONE, and nothing is done, if there is a FAULT": THE TAPE is empty, fault() tells it, all else stays. */
    private static void rowsRefused() {
        String[] texts = {"x", "p", "p1", "p1=", "p1=5", "p1=12;", "p1=5;p1=6;", "p4=1;", "p1=5;p2=6;p3=7;r=8;q",
            "p1=" + "5 ".repeat(25) + ";", "r=5;p2=12;"};
        for (String text : texts) {
            String change = Whole.difference(Whole.of(() -> {
                PathCycle x = rich();
                x.end(0);
                due("rows of " + text, Tell.rows(x, text), NONE);
                Tell.rows(x, "x");
                return x;
            }), Whole.of(() -> {
                PathCycle x = rich();
                x.end(0);
                Tell.rows(x, "x");
                return x;
            }));
            due("behind rows of " + text + ": " + change, change == null, true);
        }
    }

    /** "(it is empty then)". */
    private static void rowsEmptiesTheTape() {
        PathCycle x = rich();
        due("6 bytes", x.look(12), 6);
        due("rows", x.rows(), 1);
        due("empty", x.look(12), 0);
        due("rows again", x.rows(), 0);
        due("the ROW is 0 alone", x.phase(1, 0), 0);
        Tell.tape(x, "x");
        due("a FAULT", x.rows(), NONE);
        due("empty, too", x.look(12), 0);
        x = withTape(400);
        due("rows of a full one", x.rows(), 1);
        due("a full one is empty", x.look(12), 0);
    }

    /** "Of the latest rows() what 0 FAULT (0 without), 1 its place (NONE). NONE for another what." */
    private static void faultOfTheLatestRows() {
        int[] wrong = {-1, 2, 3, LOW, HIGH};
        for (int what : wrong) {
            refusedOfRich(named("fault", what), x -> x.fault(what), NONE);
            refused(PathCycle::new, named("fault", what), x -> x.fault(what), NONE);
        }
        PathCycle x = new PathCycle();
        due("ahead of rows(): FAULT", x.fault(0), 0);
        due("ahead of rows(): place", x.fault(1), NONE);
        Tell.rows(x, "q");
        due("place 0", x.fault(1), 0);
        due("FAULT 1", x.fault(0), 1);
        Tell.rows(x, "r=1;r");
        due("FAULT 3", x.fault(0), 3);
        Tell.rows(x, "r=24");
        due("FAULT 2", x.fault(0), 2);
        due("place 2", x.fault(1), 2);
        Tell.tape(x, "r=1;");
        due("fed alone: FAULT stays", x.fault(0), 2);
        x.rows();
        due("without: FAULT", x.fault(0), 0);
        due("without: place", x.fault(1), NONE);
        Tell.tape(x, " ".repeat(399) + "q");
        x.rows();
        due("the last place", x.fault(1), 399);
        Tell.tape(x, " ".repeat(399) + "p");
        x.rows();
        due("the last place: a name", x.fault(1), 399);
        Tell.tape(x, " ".repeat(399) + "r");
        x.rows();
        due("the end of a full one", x.fault(1), 400);
    }

    // 18

    private static void layRefused() {
        int[] wrong = {-1, 2, 3, LOW, HIGH};
        for (int what : wrong) {
            refused(BoundsTest::laying, named("lay", what), x -> x.lay(what), NONE);
        }
        Supplier<PathCycle> unwished = () -> {
            PathCycle x = laying();
            x.wish(x.look(10), false);
            return x;
        };
        refused(unwished, "lay(0) without WISHED", x -> x.lay(0), NONE);
        refused(unwished, "lay(1) without WISHED", x -> x.lay(1), NONE);
        Supplier<PathCycle> prime = () -> {
            PathCycle x = laying();
            x.turn(13);
            Tell.lengths(x, 3);
            return x;
        };
        refused(prime, "lay(0) if T is 13", x -> x.lay(0), NONE);
        refused(prime, "lay(1) if T is 13", x -> x.lay(1), NONE);
        due("lay(0)", laying().lay(0), 6);
        due("lay(1)", laying().lay(1), 6);
    }

    /** Three PULSES, one PATH WISHED; THE CYCLE is told, the RECEIVER does not FOLLOW. */
    private static PathCycle laying() {
        PathCycle x = new PathCycle();
        x.wish(7, true);
        Tell.lengths(x, 2, 1, 3, 1);
        Tell.steps(x, 1, 2, 3, 4, 5, 6, 7, 8, 9, 10, 11, 1, 2, 3, 4, 5);
        Tell.rows(x, "p1=7 8 9 10 11;r=3 2;");
        x.follow(false);
        return Whole.asked(x);
    }

    /** Five PULSES, T as told, all FREE but CHIEF, which has 0 behind all but the last, and those told. */
    private static PathCycle asking(int t, int[][] asked) {
        PathCycle x = new PathCycle();
        x.turn(t);
        x.pulses(5, 3);
        Tell.freeEvery(x);
        x.wish(x.find(0, 0, 0, 0), true);
        for (int[] w : asked) {
            int[] orders = new int[4];
            for (int k = w[1]; k < w[2]; k++) {
                orders[k] = w[0];
            }
            x.free(x.find(orders[0], orders[1], orders[2], orders[3]), false);
        }
        return x;
    }

    /** What halves at PULSE 0 (if it is the first) and thirds at all others stop with the least product. */
    private static int[][] askedFrom(int first) {
        List<int[]> all = new ArrayList<>();
        for (int to = 1; to < 5; to++) {
            all.add(new int[] {3, 0, to});
            for (int from = first; from < to; from++) {
                all.add(new int[] {2, from, to});
            }
        }
        return all.toArray(new int[0][]);
    }

    private static int countersOf(PathCycle x) {
        int counters = 0;
        for (int k = 0; k < 5; k++) {
            counters += x.fewest(k) > 1 ? 1 : 0;
        }
        return counters;
    }

    /** "more than 4 COUNTERS would be". */
    private static void layRefusesFiveCounters() {
        Supplier<PathCycle> five = () -> {
            PathCycle x = asking(6, askedFrom(0));
            Tell.lengths(x, 5);
            return x;
        };
        due("five COUNTERS would be", countersOf(five.get()), 5);
        due("but not more than 512 SCANS", five.get().fewest(10), 162);
        refused(five, "lay(0) of five COUNTERS", x -> x.lay(0), NONE);
        PathCycle four = asking(6, askedFrom(1));
        due("four COUNTERS would be", countersOf(four), 4);
        due("lay(0) of four COUNTERS", four.lay(0), four.fewest(10));
        due("the last of four", four.look(33) > 1, true);
        due("GOOD", four.look(9), 1);
    }

    /** "more than 512 SCANS": 512 are laid, 729 are not. */
    private static void layRefusesMoreThan512Scans() {
        PathCycle last = chained(8);
        due("8 by 8 by 8", last.fewest(10), 512);
        due("lay(0) to 512 SCANS", last.lay(0), 512);
        due("GOOD", last.look(9), 1);
        Supplier<PathCycle> beyond = () -> {
            PathCycle x = chained(9);
            Tell.lengths(x, 5);
            return x;
        };
        due("more SCANS would be", beyond.get().fewest(10), 729);
        due("but not more than 4 COUNTERS", beyond.get().look(0), 4);
        refused(beyond, "lay(0) of more than 512 SCANS", x -> x.lay(0), NONE);
    }

    /** Four PULSES, T 8 or 9: three N must be T, for CHANGES differ by 4 there, or 3. */
    private static PathCycle chained(int t) {
        PathCycle x = new PathCycle();
        x.turn(t);
        x.pulses(4, 3);
        Tell.freeEvery(x);
        x.wish(x.find(-3, -3, -3, 0), true);
        int up = t == 8 ? 4 : 3;
        for (int from = 0; from < 3; from++) {
            for (int to = from + 1; to < 4; to++) {
                int[] orders = {-3, -3, -3};
                for (int k = from; k < to && k < 3; k++) {
                    orders[k] += up;
                }
                x.free(x.find(orders[0], orders[1], orders[2], 0), false);
            }
        }
        return x;
    }

    /** "COUNTERS in the order of PULSES with N above 1": there may be none; L may be 1. */
    private static void layOfOneScan() {
        for (int what = 0; what <= 1; what++) {
            PathCycle x = laying();
            Tell.freeEvery(x);
            due("lay(" + what + ") of 1", x.lay(what), 1);
            for (int j = 0; j < 4; j++) {
                due("LENGTH", x.look(30 + j), 1);
                due("numbers", x.look(40 + j), 1);
            }
            due("FOLLOWS", x.look(11), 1);
            due("GOOD", x.look(9), 1);
            due("STEPS 0", x.counter(0, 2) + x.phase(0, 1) + x.phase(1, 1) + x.phase(2, 1), 2);
        }
    }

    /** N and L 11 and 12: "LENGTH N, STEP T by N", "LENGTH L, STEPS W times T by L". */
    private static void layOfTheGreatest() {
        for (int what = 0; what <= 1; what++) {
            PathCycle x = new PathCycle();
            x.turn(12);
            x.pulses(3, 3);
            Tell.freeEvery(x);
            x.wish(x.find(3, -3, 0, 0), true);
            int[][] asked = {{-3, -3}, {3, 3}, {-1, -3}, {3, 1}};
            for (int[] w : asked) {
                x.free(x.find(w[0], w[1], 0, 0), false);
            }
            due("lay(" + what + ") of 12", x.lay(what), 12);
            due("STEP 1", x.phase(1, 11), 11);
            due("the others rest", x.phase(0, 11) + x.phase(2, 11), 0);
            due("GOOD", x.look(9), 1);
        }
        PathCycle x = new PathCycle();
        x.turn(22);
        x.pulses(2, 3);
        x.wish(6, true);
        due("T 22: N is 11", x.fewest(10), 11);
        due("lay(0) of 11", x.lay(0), 11);
        due("STEP 2", x.phase(1, 10), 20);
        due("lay(1) of 11", x.lay(1), 11);
        due("STEP 2 by W 1", x.phase(1, 10), 20);
    }

    /** "all else as at first, the RECEIVER FOLLOWS". */
    private static void laidAllElseIsAsAtFirst() {
        String fewest = Whole.difference(Whole.of(() -> {
            PathCycle x = laying();
            x.lay(0);
            return x;
        }), Whole.of(() -> {
            PathCycle x = new PathCycle();
            x.wish(7, true);
            Tell.lengths(x, 3, 2);
            Tell.steps(x, 0, 0, 0, 0, 8, 0, 0, 0, 0, 12);
            return x;
        }));
        due("FEWEST laid: " + fewest, fewest == null, true);
        String cogs = Whole.difference(Whole.of(() -> {
            PathCycle x = laying();
            x.lay(1);
            return x;
        }), Whole.of(() -> {
            PathCycle x = new PathCycle();
            x.wish(7, true);
            Tell.lengths(x, 6);
            Tell.steps(x, 0, 0, 0, 0, 4, 0, 0, 0, 16);
            return x;
        }));
        due("COGS laid: " + cogs, cogs == null, true);
    }

    // 19 .. 24

    private static void orderRefused() {
        int[][] wrong = {{-1, 0}, {21, 0}, {LOW, 0}, {HIGH, 0}, {0, -1}, {0, 3}, {0, LOW}, {0, HIGH}, {20, 3}, {21, 3}};
        for (int[] w : wrong) {
            refusedOfRich(named("order", w), x -> x.order(w[0], w[1]), NO_ORDER);
        }
        due("order(0, 0)", rich().order(0, 0), -3);
        due("order(20, 0)", rich().order(20, 0), 3);
        due("order(20, 1)", rich().order(20, 1), 0);
        due("order(20, 2)", rich().order(20, 2), -1);
    }

    private static void findRefused() {
        int[][] wrong = {{-4, 0}, {4, 0}, {0, -4}, {0, 4}, {LOW, 0}, {HIGH, 0}, {0, LOW}, {0, HIGH}, {0, -3}, {0, 1},
            {0, 3}};
        for (int[] w : wrong) {
            refusedOfRich(named("find", w), x -> x.find(w[0], w[1], 0, 0), NONE);
        }
        due("find(-3, -2)", rich().find(-3, -2, 0, 0), 0);
        due("find(-3, 0)", rich().find(-3, 0, 0, 0), 2);
        due("find(3, 0)", rich().find(3, 0, 0, 0), 20);
    }

    /** "(those behind the last but one aren't asked)". */
    private static void findAsksAllButTheLast() {
        int[] far = {LOW, HIGH, 4, -4, 0};
        for (int a : far) {
            PathCycle x = new PathCycle();
            x.pulses(1, 3);
            due("one PULSE: find " + a, x.find(a, a, a, a), 0);
            x.pulses(2, 3);
            due("two PULSES: find 3, " + a, x.find(3, a, a, a), 6);
            x.pulses(3, 3);
            due("three PULSES: find 3, 3, " + a, x.find(3, 3, a, a), 48);
            x.pulses(4, 3);
            due("four PULSES: find 3, 3, 3, " + a, x.find(3, 3, 3, a), 342);
            x.pulses(5, 3);
            due("five PULSES: find 3, 3, 3, " + a, x.find(3, 3, 3, a), a == 0 ? 2397 : NONE);
        }
    }

    private static void phaseRefused() {
        int[][] wrong = {{-1, 0}, {4, 0}, {LOW, 0}, {HIGH, 0}, {0, -1}, {0, 48}, {0, LOW}, {0, HIGH}, {3, 48}, {4, 48}};
        for (int[] w : wrong) {
            refusedOfRich(named("phase", w), x -> x.phase(w[0], w[1]), NONE);
        }
        due("phase(0, 0)", rich().phase(0, 0), 7);
        due("phase(0, 47)", rich().phase(0, 47), (9 + 3 + 11 * 3) % 12);
        due("phase(3, 47)", rich().phase(3, 47), (2 + 3 * 2 + 11 * 4) % 12);
    }

    private static void residueRefused() {
        int[][] wrong = {{-1, 0}, {21, 0}, {LOW, 0}, {HIGH, 0}, {0, -1}, {0, 48}, {0, LOW}, {0, HIGH}};
        for (int[] w : wrong) {
            refusedOfRich(named("residue", w), x -> x.residue(w[0], w[1]), NONE);
        }
        due("residue(0, 0): -3 times 7 less 3", rich().residue(0, 0), 0);
        due("residue(20, 0): 3 times 7 less 3", rich().residue(20, 0), 6);
        int last = 3 * 9 - 3 * (3 * 5 + 11 * 7) - (3 * 9 + 11 * 11) - 4;
        due("residue(20, 47)", rich().residue(20, 47), Math.floorMod(last, 12));
    }

    /** The last of all that can be, at the last SCAN that can be. */
    private static void residueOfTheLast() {
        PathCycle x = new PathCycle();
        x.pulses(5, 3);
        Tell.lengths(x, 8, 8, 8);
        Tell.steps(x, 1);
        for (int again = 0; again < 2; again++) {
            due("residue(2400, 511): 3 times 7", x.residue(2400, 511), 21);
            due("many(2400, 21)", x.many(2400, 21), 64);
            due("early(2400, 512)", x.early(2400, 512), 0);
        }
        due("residue(2401, 511)", x.residue(2401, 511), NONE);
        due("residue(2400, 512)", x.residue(2400, 512), NONE);
    }

    private static void manyRefused() {
        int[][] wrong = {{-1, 0}, {21, 0}, {LOW, 0}, {HIGH, 0}, {0, -1}, {0, 12}, {0, LOW}, {0, HIGH}};
        for (int[] w : wrong) {
            refusedOfRich(named("many", w), x -> x.many(w[0], w[1]), NONE);
        }
    }

    /** "At how many SCANS a PATH has a RESIDUE": 0 .. all, and all RESIDUES together are all SCANS. */
    private static void manyAddUpToScans() {
        PathCycle x = rich();
        for (int path = 0; path <= 20; path++) {
            int all = 0;
            for (int residue = 0; residue < 12; residue++) {
                all += x.many(path, residue);
            }
            due("all RESIDUES of " + path, all, 48);
        }
        x = new PathCycle();
        Tell.lengths(x, 8, 8, 8);
        Tell.rows(x, "p2=" + "23 ".repeat(24) + ";");
        due("0 at all SCANS", x.many(x.find(0, 0, 0, 0), 0), 512);
        due("T less 1 at all SCANS", x.many(x.find(0, 1, 0, 0), 23), 512);
        due("0 at none", x.many(x.find(0, 1, 0, 0), 0), 0);
        due("1 at all SCANS", x.many(x.find(1, 0, 0, 0), 1), 512);
    }

    private static void pathRefused() {
        int[][] wrong = {{-1, 0}, {21, 0}, {LOW, 0}, {HIGH, 0}, {0, -1}, {0, 9}, {0, LOW}, {0, HIGH}, {20, 9}, {21, 8}};
        for (int[] w : wrong) {
            refusedOfRich(named("path", w), x -> x.path(w[0], w[1]), NONE);
        }
        for (int what = 0; what <= 8; what++) {
            due("path(0, " + what + ") is some", rich().path(0, what) >= 0, true);
            due("path(20, " + what + ") is some", rich().path(20, what) >= 0, true);
        }
    }

    /** "its greatest ORDER without sign": 1 .. 3, for the last is -1; behind the first, another, with both signs. */
    private static void pathTellsItsGreatestOrder() {
        PathCycle x = new PathCycle();
        x.pulses(5, 3);
        due("-1 of the last alone", x.path(x.find(0, 0, 0, 0), 5), 1);
        due("-3 of the first", x.path(x.find(-3, 2, 1, 0), 5), 3);
        due("3 of the last but one", x.path(x.find(0, -2, 0, 3), 5), 3);
        due("-2", x.path(x.find(0, 0, -2, 1), 5), 2);
        due("CHANGES: all five", x.path(x.find(1, 0, 1, 0), 4), 5);
        due("CHANGES: one", x.path(x.find(0, 0, 0, 0), 4), 1);
    }

    // 25 .. 32

    private static void leakRefused() {
        int leaks = rich().leak(NONE);
        due("five LEAKS", leaks, 5);
        int[] wrong = {leaks, leaks + 1, -2, LOW, HIGH};
        for (int i : wrong) {
            refusedOfRich(named("leak", i), x -> x.leak(i), NONE);
        }
        PathCycle x = new PathCycle();
        due("all are LEAKS", x.leak(NONE), 9);
        due("the first", x.leak(0), 0);
        due("the last", x.leak(8), 8);
        due("one more", x.leak(9), NONE);
        Tell.freeEvery(x);
        due("no LEAKS", x.leak(NONE), 0);
        due("no LEAKS: the first", x.leak(0), NONE);
        x.pulses(5, 3);
        due("2401 LEAKS", x.leak(NONE), 2401);
        due("the last of 2401", x.leak(2400), 2400);
        due("one more than 2401", x.leak(2401), NONE);
    }

    private static void worstRefused() {
        int leaks = rich().leak(NONE);
        int[][] wrong = {{leaks, 0}, {leaks, 1}, {-1, 0}, {-1, 1}, {-2, 0}, {LOW, 0}, {HIGH, 1}, {0, -1}, {0, 2}, {0, LOW},
            {0, HIGH}};
        for (int[] w : wrong) {
            refusedOfRich(named("worst", w), x -> x.worst(w[0], w[1]), NONE);
        }
        due("worst(0, 0)", rich().worst(0, 0), 7);
        due("worst(0, 1)", rich().worst(0, 1), 14);
        due("worst(4, 0)", rich().worst(4, 0), 16);
        due("worst(4, 1)", rich().worst(4, 1), 2);
        PathCycle x = new PathCycle();
        Tell.freeEvery(x);
        due("no LEAKS: number", x.worst(0, 0), NONE);
        due("no LEAKS: WEIGHT", x.worst(0, 1), NONE);
    }

    /** "(the greatest first; of several the least number)". */
    private static void worstOfSeveralTheLeastNumber() {
        PathCycle x = new PathCycle();
        for (int i = 0; i < 9; i++) {
            due("all alike: number", x.worst(i, 0), i);
            due("all alike: WEIGHT", x.worst(i, 1), 1);
        }
        x.weight(0, 0, 2);
        int[] numbers = {3, 4, 5, 0, 1, 2, 6, 7, 8};
        for (int i = 0; i < 9; i++) {
            due("three first: number", x.worst(i, 0), numbers[i]);
            due("three first: WEIGHT", x.worst(i, 1), i < 3 ? 2 : 1);
        }
        due("one more", x.worst(9, 0), NONE);
        x.pulses(5, 3);
        x.weight(4, 4, 9);
        due("2401: the first with -4", x.worst(0, 0), 6);
        due("2401: the last", x.worst(2400, 0), 2399);
        due("2401: one more", x.worst(2401, 0), NONE);
        x.pulses(2, 3);
        for (int change = 0; change <= 3; change++) {
            x.weight(0, change, change + 1);
            x.weight(1, change, 1);
        }
        for (int path = 0; path < 3; path++) {
            x.free(path, true);
        }
        for (int i = 0; i < 4; i++) {
            due("four that differ: number", x.worst(i, 0), 6 - i);
            due("four that differ: WEIGHT", x.worst(i, 1), 4 - i);
        }
        due("four that differ: one more", x.worst(4, 0), NONE);
        x.freeAll(0, 0);
        x.freeAll(0, 2);
        x.freeAll(0, 3);
        due("one LEAK: number", x.worst(0, 0), 4);
        due("one LEAK: WEIGHT", x.worst(0, 1), 2);
        due("one LEAK: one more", x.worst(1, 0), NONE);
    }

    private static void stoppedRefused() {
        int[] wrong = {-1, 21, LOW, HIGH};
        for (int path : wrong) {
            refusedOfRich(named("stopped", path), x -> x.stopped(path), NONE);
        }
        due("stopped(0) is a set", rich().stopped(0) >= 0, true);
        due("stopped(20) is a set", rich().stopped(20) >= 0, true);
    }

    private static void spareRefused() {
        int[] wrong = {-1, 4, LOW, HIGH};
        for (int counter : wrong) {
            refused(BoundsTest::laid, named("spare", counter), x -> x.spare(counter), NONE);
        }
        due("spare(0)", laid().spare(0), 3);
        due("spare(3)", laid().spare(3), 1);
        refusedOfRich("spare(0) without one", x -> x.spare(0), NONE);
        refused(BoundsTest::laid, "spare(0)", x -> x.spare(0), 3);
    }

    private static PathCycle laid() {
        PathCycle x = laying();
        x.lay(0);
        return x;
    }

    /** "The least LENGTH (1 .. 12)": 1, 12, and none that is 13. */
    private static void spareIsOneToTwelve() {
        for (int n = 2; n <= 16; n++) {
            PathCycle x = new PathCycle();
            x.turn(n);
            x.pulses(2, 1);
            x.wish(0, true);
            x.free(2, true);
            x.step(0, 2, 1);
            x.counter(2, Math.min(n + 1, 12));
            due("all " + n + " of T", x.spare(2), n <= 12 ? n : NONE);
            due("LENGTH stays", x.look(32), Math.min(n + 1, 12));
            x.free(1, true);
            due("nothing to stop", x.spare(2), 1);
            x.free(0, true);
            due("nothing WISHED", x.spare(2), NONE);
            x.wish(0, true);
            x.weight(0, 1, 0);
            due("WISHED one is GONE", x.spare(2), NONE);
        }
    }

    /** "(512 SCANS at most)". */
    private static void spareWithin512Scans() {
        PathCycle x = new PathCycle();
        x.turn(8);
        x.pulses(2, 1);
        x.wish(0, true);
        x.free(2, true);
        x.step(0, 3, 1);
        Tell.lengths(x, 8, 8);
        due("8 by 8 by 8", x.spare(3), 8);
        x.counter(1, 9);
        due("8 by 9 by 8", x.spare(3), NONE);
        x.counter(0, 7);
        due("7 by 9 by 8", x.spare(3), 8);
        x.counter(2, 2);
        due("7 by 9 by 2 by 8", x.spare(3), NONE);
        Tell.lengths(x, 8, 8, 8);
        due("there is no room but for 1", x.spare(3), NONE);
        x.free(1, true);
        due("1 is enough", x.spare(3), 1);
        x.pulses(5, 3);
        Tell.freeEvery(x);
        x.wish(2400, true);
        due("2401 PATHS", x.spare(3), 1);
    }

    /** "The least number of first SCANS": the first one, the last one. */
    private static void soonestIsOneToScans() {
        for (int n = 1; n <= 12; n++) {
            PathCycle x = new PathCycle();
            x.turn(n == 1 ? 2 : n);
            x.pulses(2, 1);
            x.wish(0, true);
            x.free(2, true);
            if (n == 1) {
                x.free(1, true);
            }
            x.step(0, 0, 1);
            x.counter(0, n);
            due("all " + n, x.soonest(), n);
            if (n > 1) {
                x.counter(0, n - 1);
                due("one less", x.soonest(), NONE);
            }
            x.counter(0, 12);
            due("12: " + n + " first", x.soonest(), n);
        }
        PathCycle x = new PathCycle();
        x.turn(2);
        x.pulses(2, 1);
        x.wish(0, true);
        x.free(2, true);
        Tell.lengths(x, 4, 8, 8, 2);
        x.step(0, 3, 1);
        due("all 512", x.soonest(), 512);
    }

    /** "NONE if there is none, more PATHS, or nothing is WISHED." */
    private static void soonestWithoutOne() {
        PathCycle x = new PathCycle();
        Tell.freeEvery(x);
        due("nothing WISHED", x.soonest(), NONE);
        x.wish(0, true);
        due("nothing to stop", x.soonest(), 1);
        x.free(8, false);
        due("one that is not stopped", x.soonest(), NONE);
        x.weight(0, 1, 0);
        due("both are GONE", x.soonest(), NONE);
        x.weight(0, 1, 1);
        x.weight(1, 0, 0);
        due("both are GONE by PULSE 1", x.soonest(), NONE);
        x.weight(1, 0, 1);
        x.weight(2, 2, 0);
        due("the other one is GONE", x.soonest(), 1);
    }

    /** What was before n was told does nothing: neither PATHS behind the last one nor PULSES that there were not. */
    private static void fewerPathsThanBefore() {
        String change = Whole.difference(Whole.of(() -> {
            PathCycle x = new PathCycle();
            x.pulses(5, 3);
            x.wish(x.find(0, -3, -3, 0), true);
            Whole.asked(x);
            return good(x);
        }), Whole.of(() -> good(new PathCycle())));
        due("fewer PATHS than before: " + change, change == null, true);
        String more = Whole.difference(Whole.of(() -> {
            PathCycle x = new PathCycle();
            x.pulses(2, 3);
            x.wish(0, true);
            Whole.asked(x);
            x.pulses(3, 1);
            x.wish(7, true);
            return x;
        }), Whole.of(() -> {
            PathCycle x = new PathCycle();
            x.wish(7, true);
            return x;
        }));
        due("more PULSES than before: " + more, more == null, true);
        due("soonest", good(new PathCycle()).soonest(), 2);
        due("spare", good(new PathCycle()).spare(0), 2);
    }

    private static PathCycle good(PathCycle x) {
        x.pulses(2, 1);
        x.wish(0, true);
        x.free(2, true);
        x.step(0, 0, 12);
        x.counter(0, 2);
        return x;
    }

    private static void lostRefused() {
        due("one is LOST", rich().lost(NONE), 1);
        due("it is 10", rich().lost(0), 10);
        int[] wrong = {1, 2, -2, LOW, HIGH};
        for (int i : wrong) {
            refusedOfRich(named("lost", i), x -> x.lost(i), NONE);
        }
        PathCycle x = new PathCycle();
        due("no LOST ones", x.lost(NONE), 0);
        due("no LOST ones: the first", x.lost(0), NONE);
        for (int path = 0; path < 9; path++) {
            x.wish(path, true);
        }
        x.gradient(2, 1);
        due("all are LOST but those with 1", x.lost(NONE), 9);
        due("the first", x.lost(0), 0);
        due("the last", x.lost(8), 8);
        due("one more", x.lost(9), NONE);
        x.gradient(0, 1);
        due("those with 1 behind PULSE 0 are not", x.lost(NONE), 6);
        due("the last of six", x.lost(5), 5);
        due("no seventh", x.lost(6), NONE);
    }

    private static void earlyRefused() {
        int[][] wrong = {{-1, 1}, {21, 1}, {LOW, 1}, {HIGH, 1}, {0, 0}, {0, -1}, {0, 49}, {0, LOW}, {0, HIGH}};
        for (int[] w : wrong) {
            refusedOfRich(named("early", w), x -> x.early(w[0], w[1]), NONE);
        }
    }

    /** "(1 .. SCANS) 0 .. 2 as path() tells it". */
    private static void earlyOfTheFirstAndOfAll() {
        PathCycle x = rich();
        for (int path = 0; path <= 20; path++) {
            due("the first SCAN alone: " + path, x.early(path, 1), 2);
            due("all SCANS: " + path, x.early(path, 48), x.path(path, 0));
        }
        x = new PathCycle();
        Tell.lengths(x, 8, 8, 8);
        x.step(0, 0, 12);
        due("all 512", x.early(8, 512), 0);
        due("511", x.early(8, 511), 1);
        due("513", x.early(8, 513), NONE);
    }

    private static void untilRefused() {
        int[][] wrong = {{-1, 1}, {21, 1}, {LOW, 1}, {HIGH, 1}, {0, 0}, {0, -1}, {0, 49}, {0, LOW}, {0, HIGH}};
        for (int[] w : wrong) {
            refusedOfRich(named("until", w), x -> x.until(w[0], w[1]), NONE);
        }
    }

    /** "(from at on; 1 .. SCANS)". */
    private static void untilFromAtOn() {
        PathCycle x = new PathCycle();
        Tell.lengths(x, 8, 8, 8);
        x.step(0, 0, 12);
        due("from the first on", x.until(8, 1), 2);
        due("from 2 on: 2 itself", x.until(8, 2), 2);
        due("from 3 on", x.until(8, 3), 4);
        due("from 511 on", x.until(8, 511), 512);
        due("from 512 on", x.until(8, 512), 512);
        due("from 513 on", x.until(8, 513), NONE);
        due("from 0 on", x.until(8, 0), NONE);
        due("it never VANISHES", x.until(4, 1), NONE);
        x.counter(0, 7);
        due("7 at a time: the last of the first ones", x.until(8, 6), 6);
        due("7 at a time: one too many behind them", x.until(8, 7), NONE);
    }

    // 33 .. 38

    private static void fewestRefused() {
        int[] wrong = {-1, 3, 4, 5, 9, 11, LOW, HIGH};
        for (int what : wrong) {
            refused(BoundsTest::laying, named("fewest", what), x -> x.fewest(what), NONE);
        }
        int[] is = {1, 3, 2};
        for (int k = 0; k < 3; k++) {
            due(named("fewest", k), laying().fewest(k), is[k]);
        }
        due("fewest(10)", laying().fewest(10), 6);
        PathCycle x = new PathCycle();
        x.pulses(5, 1);
        due("without WISHED: N", x.fewest(0), NONE);
        due("without WISHED: product", x.fewest(10), NONE);
        x.wish(0, true);
        due("five: the last N", x.fewest(4) >= 1, true);
        due("five: none behind", x.fewest(5), NONE);
        x.pulses(1, 1);
        x.wish(0, true);
        due("one: N", x.fewest(0), 1);
        due("one: none behind", x.fewest(1), NONE);
    }

    private static void cogsRefused() {
        int[] wrong = {-1, 3, 4, 5, 9, 11, LOW, HIGH};
        for (int what : wrong) {
            refused(BoundsTest::laying, named("cogs", what), x -> x.cogs(what), NONE);
        }
        int[] is = {0, 1, 4};
        for (int k = 0; k < 3; k++) {
            due(named("cogs", k), laying().cogs(k), is[k]);
        }
        due("cogs(10)", laying().cogs(10), 6);
        PathCycle x = new PathCycle();
        x.pulses(5, 1);
        due("without WISHED: W", x.cogs(0), NONE);
        due("without WISHED: L", x.cogs(10), NONE);
        Tell.freeEvery(x);
        x.wish(0, true);
        due("five: the last W", x.cogs(4), 0);
        due("five: none behind", x.cogs(5), NONE);
        x.pulses(1, 1);
        x.wish(0, true);
        due("one: W", x.cogs(0), 0);
        due("one: none behind", x.cogs(1), NONE);
    }

    private static void powerRefused() {
        int[] turns = {2, 3, 4, 6};
        for (int t : turns) {
            Supplier<PathCycle> told = () -> {
                PathCycle x = rich();
                x.turn(t);
                return x;
            };
            int[] wrong = {-1, 21, LOW, HIGH};
            for (int path : wrong) {
                refused(told, "T " + t + ": " + named("power", path), x -> x.power(path), NONE);
            }
            due("T " + t + ": power(0)", told.get().power(0), 1);
            due("T " + t + ": power(20)", told.get().power(20), 1);
        }
        refusedOfRich("T 12: power(0)", x -> x.power(0), NONE);
        refusedOfRich("T 12: power(20)", x -> x.power(20), NONE);
    }

    /** "NONE if one does not divide T, is not 1 .. 12, or nothing is WISHED." */
    private static void wouldRefused() {
        int[][] wrong = {{0, 1, 1}, {1, 0, 1}, {1, 1, 0}, {-1, 1, 1}, {1, 1, -1}, {5, 1, 1}, {1, 7, 1}, {1, 1, 9}, {24, 1, 1},
            {1, 1, 24}, {13, 1, 1}, {LOW, 1, 1}, {1, HIGH, 1}, {1, 1, LOW}};
        for (int[] w : wrong) {
            refused(BoundsTest::laying, named("would", w), x -> x.would(w[0], w[1], w[2], 1, 1), NONE);
        }
        due("of 1", laying().would(1, 1, 1, 1, 1), 8);
        due("of 12", laying().would(12, 12, 12, 1, 1), 0);
        refused(PathCycle::new, "nothing WISHED", x -> x.would(1, 1, 1, 1, 1), NONE);
        PathCycle x = laying();
        x.turn(48);
        due("T 48: 16 is above 12", x.would(16, 1, 1, 1, 1), NONE);
        due("T 48: 12", x.would(12, 1, 1, 1, 1), 2);
        x.turn(2);
        due("T 2: 2", x.would(2, 1, 1, 1, 1), 5);
        due("T 2: 3", x.would(3, 1, 1, 1, 1), NONE);
        due("T 2: 4", x.would(4, 1, 1, 1, 1), NONE);
    }

    /** "(those from n on aren't asked)". */
    private static void wouldAsksNoneBehindTheLast() {
        int[] far = {LOW, HIGH, 0, -1, 13, 5};
        for (int a : far) {
            for (int n = 1; n <= 5; n++) {
                PathCycle x = new PathCycle();
                x.pulses(n, 1);
                x.wish(0, true);
                int[] five = {a, a, a, a, a};
                for (int k = 0; k < n; k++) {
                    five[k] = 1;
                }
                due(n + " PULSES, behind them " + a, x.would(five[0], five[1], five[2], five[3], five[4]), x.look(3) - 1);
                five[n - 1] = a;
                due(n + " PULSES, the last " + a, x.would(five[0], five[1], five[2], five[3], five[4]), NONE);
            }
        }
    }

    /** "NONE if there is nothing to divide by (no FEWEST, no COGS, no PATHS), or another what." */
    private static void shareAndPartRefused() {
        int[] wrong = {-1, 5, 6, LOW, HIGH};
        for (int what : wrong) {
            refusedOfRich(named("share", what), x -> x.share(what), NONE);
            refusedOfRich(named("part", what), x -> x.part(what), NONE);
        }
        PathCycle x = new PathCycle();
        for (int what = 0; what <= 4; what++) {
            boolean none = what == 2 || what == 3;
            due("nothing WISHED: share(" + what + ")", x.share(what) == NONE, none);
            due("nothing WISHED: part(" + what + ")", x.part(what) == NONE, none);
        }
        x.pulses(1, 1);
        x.kind(0, 1);
        for (int what = 0; what <= 4; what++) {
            due("no PATHS: share(" + what + ")", x.share(what) == NONE, what != 4);
            due("no PATHS: part(" + what + ")", x.part(what) == NONE, what != 4);
        }
        x.pulses(4, 3);
        x.wish(0, true);
        Tell.freeEvery(x);
        due("343 PATHS: no COGS", x.share(3), NONE);
        due("343 PATHS: no COGS", x.part(3), NONE);
        due("343 PATHS: FEWEST", x.share(2), Float.floatToIntBits(1f));
    }

    private static void dueShare(PathCycle x, int what, int above, int below) {
        due("share(" + what + ")", x.share(what), Float.floatToIntBits((float) above / (float) below));
        due("part(" + what + ")", x.part(what), Double.doubleToLongBits((double) above / (double) below));
    }

    /** 0, 1, the least and the greatest that can be. */
    private static void shareAndPartOfNoneAndOfAll() {
        PathCycle x = new PathCycle();
        dueShare(x, 0, 9, 9);
        dueShare(x, 1, 9, 9);
        dueShare(x, 4, 24, 1);
        x.turn(48);
        dueShare(x, 4, 48, 1);
        x.turn(2);
        Tell.lengths(x, 8, 8, 8);
        dueShare(x, 4, 2, 512);
        x.wish(0, true);
        x.turn(24);
        Tell.lengths(x, 8, 8, 8);
        dueShare(x, 2, 512, x.fewest(10));
        dueShare(x, 3, 512, x.cogs(10));
        Tell.freeEvery(x);
        dueShare(x, 0, 0, 9);
        dueShare(x, 2, 512, 1);
        dueShare(x, 3, 512, 1);
        x.pulses(2, 1);
        x.free(0, true);
        x.free(1, true);
        dueShare(x, 0, 1, 3);
        x.counter(0, 2);
        x.step(0, 0, 12);
        dueShare(x, 0, 0, 3);
        dueShare(x, 1, 1, 3);
        x.follow(false);
        x.step(2, 0, 1);
        dueShare(x, 1, 3, 3);
        x.pulses(5, 3);
        dueShare(x, 0, 2401, 2401);
        Tell.freeEvery(x);
        for (int leaks = 1; leaks <= 20; leaks++) {
            x.free(leaks * 120, false);
            dueShare(x, 0, leaks, 2401);
        }
    }

    // 39, 40

    /** "true; false if there is none". */
    private static void imageRefused() {
        Supplier<PathCycle> without = () -> {
            PathCycle x = laying();
            Tell.tape(x, "p2=1;");
            return x;
        };
        refused(without, "image(false)", x -> bit(x.image(false)), 0);
        PathCycle x = without.get();
        due("image(true)", x.image(true), true);
        due("image(true) again", x.image(true), true);
        due("image(false)", x.image(false), true);
        due("image(false) again", x.image(false), true);
        String change = Whole.changeBy(BoundsTest::rich, y -> {
            int is = bit(y.image(false));
            y.image(true);
            return is;
        });
        due("gone back to it is not nothing", change != null, true);
        String none = Whole.changeBy(() -> {
            PathCycle y = rich();
            y.image(true);
            return y;
        }, y -> bit(y.image(true)) + bit(y.image(false)));
        due("taken and gone back to at once: " + none, none == null, true);
    }

    /** An IMAGE of a new object holds nothing told. */
    private static void imageOfTheStart() {
        String change = Whole.difference(Whole.of(() -> {
            PathCycle x = new PathCycle();
            x.image(true);
            x.pulses(5, 3);
            x.turn(48);
            Tell.freeEvery(x);
            x.wish(2400, true);
            x.kind(0, 1);
            x.wish(0, true);
            x.gradient(4, 9);
            x.weight(4, 6, 9);
            Tell.lengths(x, 8, 8, 8);
            Tell.steps(x, 1, 2, 3, 4, 5, 6, 7, 8, 9, 10, 11, 12, 13, 14, 15, 16, 17, 18, 19, 20, 21, 22, 23, 24);
            x.follow(false);
            Tell.rows(x, "p5=1 2 3;");
            x.image(false);
            return x;
        }), Whole.of(() -> {
            PathCycle x = new PathCycle();
            x.image(true);
            return x;
        }));
        due("gone back to the start: " + change, change == null, true);
    }

    private static void lookRefused() {
        int[] wrong = {-1, -100, LOW, HIGH, 15, 16, 19, 23, 29, 34, 39, 44, 49, 53, 54, 59, 60, 100, 220, 256 + 20};
        for (int what : wrong) {
            refusedOfRich(named("look", what), x -> x.look(what), NO_LOOK);
        }
        int[] is = {0, 14, 20, 22, 30, 33, 40, 43, 50, 52};
        for (int what : is) {
            due(named("look", what) + " is some", rich().look(what) != NO_LOOK, true);
        }
    }

    /** The greatest that looks can answer, and the least. */
    private static void lookAtTheGreatest() {
        PathCycle x = new PathCycle();
        x.pulses(5, 3);
        x.turn(48);
        Tell.lengths(x, 8, 8, 8);
        for (int k = 0; k < 5; k++) {
            x.gradient(k, k % 2 == 0 ? 9 : -9);
        }
        Tell.freeEvery(x);
        due("FREE ones", x.look(6), 2401);
        x.wish(2400, true);
        due("FREE ones but one", x.look(6), 2400);
        due("CHIEF", x.look(10), 2400);
        due("PATHS", x.look(3), 2401);
        due("SCANS", x.look(4), 512);
        due("GRADIENT 9", x.look(54), 9);
        due("GRADIENT -9", x.look(53), -9);
        due("LOST: SPOILED", x.look(8), 1);
        due("WEIGHTS of WISHED ones but LOST ones", x.look(14), 0);
        for (int k = 0; k < 5; k++) {
            x.gradient(k, 0);
        }
        due("no longer SPOILED", x.look(14), 1);
        due("GOOD", x.look(9), 1);
    }

    /** "An object is used for at most 512 calls after it has been made": the 512th is answered, too. */
    private static void callsToThe512th() {
        PathCycle x = new PathCycle();
        for (int call = 1; call <= 510; call++) {
            due("call " + call, x.follow(call % 2 == 0), true);
        }
        due("call 511", x.pulses(5, 3), 2401);
        due("call 512", x.leak(NONE), 2401);
    }
}
