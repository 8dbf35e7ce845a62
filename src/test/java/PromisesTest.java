/** Each promise by a method of its own: ordinary calls, the edges that the document names, and wrong ones. */
public final class PromisesTest {
    private static final int NONE = -1;
    private static final int LOW = Integer.MIN_VALUE;
    private static final int HIGH = Integer.MAX_VALUE;
    private static final Checks SEEN = new Checks();

    public static void main(String[] args) {
        newObject();
        pulses();
        pulsesForgets();
        kind();
        turn();
        counter();
        step();
        gradient();
        weight();
        swap();
        follow();
        wish();
        free();
        freeAll();
        feedAndEnd();
        rows();
        rowsFaults();
        fault();
        lay();
        layRefuses();
        layFive();
        layGreat();
        order();
        find();
        phase();
        residue();
        many();
        path();
        leak();
        worst();
        stopped();
        spare();
        soonest();
        lost();
        early();
        until();
        fewest();
        cogs();
        cogsOfMany();
        twelfths();
        power();
        would();
        shareAndPart();
        image();
        look();
        SEEN.end("PromisesTest");
    }

    private static void due(String call, long got, long want) {
        SEEN.due(call, got, want);
    }

    private static void due(String call, boolean got, boolean want) {
        SEEN.due(call, got, want);
    }

    /** Three PULSES, M 1, one COUNTER of a length that steps PULSE 1 by v. */
    private static PathCycle stepped(int length, int v) {
        PathCycle x = new PathCycle();
        x.counter(0, length);
        x.step(1, 0, v);
        return x;
    }

    private static void dueRows(PathCycle x, String text, int rows) {
        Tell.tape(x, text);
        due("rows of " + text, x.rows(), rows);
        due("fault(0) of " + text, x.fault(0), 0);
        due("fault(1) of " + text, x.fault(1), NONE);
    }

    private static void dueFault(PathCycle x, String text, int fault, int place) {
        Tell.tape(x, text);
        due("rows of " + text, x.rows(), NONE);
        due("fault(0) of " + text, x.fault(0), fault);
        due("fault(1) of " + text, x.fault(1), place);
        due("look(12) behind " + text, x.look(12), 0);
    }

    private static void newObject() {
        PathCycle x = new PathCycle();
        due("NONE", PathCycle.NONE, -1);
        int[] looks = {3, 1, 24, 9, 1, 0, 0, 9, 0, 0, NONE, 1, 0, 9, 0};
        for (int what = 0; what < looks.length; what++) {
            due("new: look(" + what + ")", x.look(what), looks[what]);
        }
        for (int k = 0; k < 3; k++) {
            due("new: KIND " + k, x.look(20 + k), 0);
            due("new: GRADIENT " + k, x.look(50 + k), 0);
        }
        for (int k = 0; k < 4; k++) {
            due("new: LENGTH " + k, x.look(30 + k), 1);
            due("new: ROW " + k, x.look(40 + k), 1);
            due("new: PHASE " + k, x.phase(k, 0), 0);
        }
        due("new: WEIGHT", x.path(2, 7), 1);
        due("new: fault(0)", x.fault(0), 0);
        due("new: fault(1)", x.fault(1), NONE);
        due("new: image(false)", x.image(false), false);
    }

    private static void pulses() {
        PathCycle x = new PathCycle();
        due("pulses(1, 1)", x.pulses(1, 1), 1);
        due("pulses(1, 3)", x.pulses(1, 3), 1);
        due("pulses(2, 3)", x.pulses(2, 3), 7);
        due("pulses(4, 2)", x.pulses(4, 2), 125);
        due("pulses(5, 3)", x.pulses(5, 3), 2401);
        due("look(0)", x.look(0), 5);
        due("look(1)", x.look(1), 3);
        int[][] wrong = {{0, 1}, {6, 1}, {3, 0}, {3, 4}, {LOW, 1}, {HIGH, 1}, {3, LOW}, {3, HIGH}};
        x.wish(7, true);
        for (int[] w : wrong) {
            due("pulses(" + w[0] + ", " + w[1] + ")", x.pulses(w[0], w[1]), NONE);
        }
        due("look(3) behind wrong ones", x.look(3), 2401);
        due("look(5) behind wrong ones", x.look(5), 1);
    }

    /** n told: all goes but T, THE TAPE, fault(), THE IMAGE and whether the RECEIVER FOLLOWS. */
    private static void pulsesForgets() {
        PathCycle x = new PathCycle();
        x.turn(12);
        x.kind(0, 2);
        x.gradient(1, 4);
        x.weight(2, 1, 5);
        x.follow(false);
        x.counter(1, 5);
        x.step(0, 1, 3);
        dueRows(x, "p1=2 3;r=4;", 2);
        x.step(3, 1, 3);
        x.wish(0, true);
        x.free(1, true);
        x.feed(1, 2, 3, 4, 5);
        due("pulses(3, 1)", x.pulses(3, 1), 9);
        int[] whats = {2, 4, 5, 6, 10, 11, 12, 20, 31, 40, 43, 51};
        int[] looks = {12, 1, 0, 0, NONE, 0, 20, 0, 1, 1, 1, 0};
        for (int i = 0; i < whats.length; i++) {
            due("n told: look(" + whats[i] + ")", x.look(whats[i]), looks[i]);
        }
        due("n told: WEIGHT", x.path(4, 7), 1);
        due("n told: PHASE", x.phase(0, 0), 0);
        x.counter(1, 5);
        due("n told: STEP of a PULSE", x.phase(0, 4), 0);
        due("n told: STEP of the RECEIVER", x.phase(3, 4), 0);
        x.follow(true);
        x.pulses(2, 1);
        due("n told: it FOLLOWS as it did", x.look(11), 1);
    }

    private static void kind() {
        PathCycle x = new PathCycle();
        x.pulses(3, 2);
        due("kind(0, 1)", x.kind(0, 1), true);
        due("TURNING first PULSE: PATHS", x.look(3), 5);
        due("TURNING first PULSE: ORDER", x.order(4, 0), 0);
        due("kind(0, 0)", x.kind(0, 0), true);
        due("any again: PATHS", x.look(3), 25);
        due("kind(1, 1)", x.kind(1, 1), true);
        due("TURNING: PATHS", x.look(3), 5);
        due("TURNING: ORDER ahead", x.order(0, 0), -2);
        due("TURNING: ORDER behind", x.order(0, 1), 2);
        due("kind(2, 2)", x.kind(2, 2), true);
        due("NEAR behind: PATHS", x.look(3), 3);
        due("NEAR behind: ORDER", x.order(0, 1), 0);
        due("NEAR behind: the other one", x.order(2, 1), -2);
        x.wish(0, true);
        x.free(1, true);
        due("kind(2, 2) again", x.kind(2, 2), true);
        due("a KIND told: WISHED", x.look(5), 0);
        due("a KIND told: FREE", x.look(6), 0);
        due("a KIND told: CHIEF", x.look(10), NONE);
        x.wish(0, true);
        x.gradient(0, 3);
        x.counter(0, 3);
        int[][] wrong = {{-1, 0}, {3, 0}, {0, -1}, {0, 3}, {LOW, 1}, {HIGH, 1}, {0, LOW}, {0, HIGH}};
        for (int[] w : wrong) {
            due("kind(" + w[0] + ", " + w[1] + ")", x.kind(w[0], w[1]), false);
        }
        due("wrong KINDS: WISHED", x.look(5), 1);
        x.kind(0, 2);
        due("a KIND told: GRADIENT stays", x.look(50), 3);
        due("a KIND told: LENGTH stays", x.look(30), 3);
        x.pulses(1, 1);
        x.kind(0, 1);
        due("a TURNING one alone: PATHS", x.look(3), 0);
        due("no PATHS: order", x.order(0, 0), NONE - 9);
        due("no PATHS: find", x.find(0, 0, 0, 0), NONE);
        due("no PATHS: leak", x.leak(NONE), 0);
        due("no PATHS: soonest", x.soonest(), NONE);
        x.kind(0, 2);
        due("a NEAR one alone: PATHS", x.look(3), 1);
    }

    private static void turn() {
        PathCycle x = stepped(4, 23);
        x.follow(false);
        x.wish(7, true);
        x.free(6, true);
        x.gradient(0, 2);
        x.kind(1, 2);
        x.wish(1, true);
        dueRows(x, "p1=23;", 1);
        int[] wrong = {1, 0, -2, 49, LOW, HIGH};
        for (int t : wrong) {
            due("turn(" + t + ")", x.turn(t), false);
        }
        due("wrong T: SCANS", x.look(4), 4);
        due("turn(2)", x.turn(2), true);
        due("T told: T", x.look(2), 2);
        due("T told: SCANS", x.look(4), 1);
        due("T told: ROW", x.phase(0, 0), 0);
        due("T told: FOLLOWS", x.look(11), 0);
        due("T told: WISHED", x.look(5), 1);
        due("T told: GRADIENT", x.look(50), 2);
        due("T told: KIND", x.look(21), 2);
        x.counter(0, 2);
        due("T told: STEP", x.phase(1, 1), 0);
        due("turn(48)", x.turn(48), true);
        due("turn(48) again", x.turn(48), true);
        due("LENGTH told again", x.look(4), 1);
    }

    private static void counter() {
        PathCycle x = new PathCycle();
        due("counter(0, 12)", x.counter(0, 12), 12);
        due("counter(3, 12)", x.counter(3, 12), 144);
        due("counter(1, 3)", x.counter(1, 3), 432);
        due("counter(2, 2)", x.counter(2, 2), NONE);
        due("counter(1, 4)", x.counter(1, 4), NONE);
        due("SCANS stay", x.look(4), 432);
        due("counter(3, 8)", x.counter(3, 8), 288);
        due("counter(0, 8)", x.counter(0, 8), 192);
        due("counter(1, 8)", x.counter(1, 8), 512);
        due("counter(1, 1)", x.counter(1, 1), 64);
        int[][] wrong = {{-1, 1}, {4, 1}, {0, 0}, {0, 13}, {LOW, 1}, {HIGH, 1}, {0, LOW}, {0, HIGH}};
        for (int[] w : wrong) {
            due("counter(" + w[0] + ", " + w[1] + ")", x.counter(w[0], w[1]), NONE);
        }
    }

    private static void step() {
        PathCycle x = new PathCycle();
        x.counter(0, 3);
        x.counter(2, 4);
        due("step(0, 0, 5)", x.step(0, 0, 5), true);
        due("step(0, 2, 23)", x.step(0, 2, 23), true);
        due("places 2 and 3", x.phase(0, 11), (2 * 5 + 3 * 23) % 24);
        due("places 1 and 2", x.phase(0, 7), (5 + 2 * 23) % 24);
        due("step(3, 0, 7)", x.step(3, 0, 7), true);
        due("it FOLLOWS", x.phase(3, 1), 0);
        x.follow(false);
        due("it does not", x.phase(3, 2), 14);
        due("step(0, 0, 0)", x.step(0, 0, 0), true);
        due("STEP 0", x.phase(0, 2), 0);
        int[][] wrong = {{-1, 0, 0}, {4, 0, 0}, {0, -1, 0}, {0, 4, 0}, {0, 0, -1}, {0, 0, 24}, {LOW, 0, 0},
            {HIGH, 0, 0}, {0, LOW, 0}, {0, HIGH, 0}, {0, 0, LOW}, {0, 0, HIGH}};
        for (int[] w : wrong) {
            due("step(" + w[0] + ", " + w[1] + ", " + w[2] + ")", x.step(w[0], w[1], w[2]), false);
        }
        due("STEP stays", x.phase(0, 3), 23);
        due("SUM ahead of it", x.path(0, 0), 1);
        x.step(0, 2, 6);
        x.step(3, 0, 0);
        due("SUM behind a STEP", x.path(0, 0), 0);
        x.step(0, 2, 0);
        due("SUM without STEPS", x.path(0, 0), 2);
    }

    private static void gradient() {
        PathCycle x = new PathCycle();
        due("gradient(0, 9)", x.gradient(0, 9), true);
        due("gradient(2, -9)", x.gradient(2, -9), true);
        due("look(50)", x.look(50), 9);
        due("look(52)", x.look(52), -9);
        due("9 and 9 are not 0", x.path(6, 6), 1);
        due("-9 and 9 are 0", x.path(0, 6), 0);
        due("0 and 9", x.path(3, 6), 1);
        int[][] wrong = {{-1, 0}, {3, 0}, {0, 10}, {0, -10}, {LOW, 1}, {HIGH, 1}, {0, LOW}, {0, HIGH}};
        for (int[] w : wrong) {
            due("gradient(" + w[0] + ", " + w[1] + ")", x.gradient(w[0], w[1]), false);
        }
        due("GRADIENT stays", x.look(50), 9);
    }

    private static void weight() {
        PathCycle x = new PathCycle();
        x.pulses(3, 3);
        int farthest = x.find(3, -3, 0, 0);
        due("weight(1, 6, 9)", x.weight(1, 6, 9), true);
        due("weight(0, 3, 2)", x.weight(0, 3, 2), true);
        due("WEIGHT", x.path(farthest, 7), 18);
        due("WEIGHT the other way", x.path(x.find(-3, 3, 0, 0), 7), 18);
        due("weight(2, 2, 0)", x.weight(2, 2, 0), true);
        due("WEIGHT 0", x.path(farthest, 7), 0);
        due("GONE", x.path(farthest, 8), 1);
        int[][] wrong = {{-1, 0, 0}, {3, 0, 0}, {0, -1, 0}, {0, 7, 0}, {0, 0, -1}, {0, 0, 10}, {LOW, 0, 0},
            {HIGH, 0, 0}, {0, LOW, 0}, {0, HIGH, 0}, {0, 0, LOW}, {0, 0, HIGH}};
        for (int[] w : wrong) {
            due("weight(" + w[0] + ", " + w[1] + ", " + w[2] + ")", x.weight(w[0], w[1], w[2]), false);
        }
        due("WEIGHT of CHANGE 0", x.path(x.find(0, 0, 0, 0), 7), 1);
    }

    private static void swap() {
        PathCycle x = stepped(5, 4);
        x.counter(2, 3);
        x.step(1, 2, 7);
        x.step(3, 2, 11);
        x.follow(false);
        due("PHASE ahead of it", x.phase(1, 1), 4);
        due("SUM ahead of it", x.early(1, 5), 1);
        due("swap(0, 2)", x.swap(0, 2), true);
        due("LENGTH 0", x.look(30), 3);
        due("LENGTH 2", x.look(32), 5);
        due("STEP 0", x.phase(1, 1), 7);
        due("STEP 2", x.phase(1, 3), 4);
        due("RECEIVER's STEP", x.phase(3, 1), 11);
        int[][] wrong = {{0, 0}, {-1, 0}, {0, -1}, {4, 0}, {0, 4}, {LOW, 0}, {0, HIGH}, {5, 5}};
        for (int[] w : wrong) {
            due("swap(" + w[0] + ", " + w[1] + ")", x.swap(w[0], w[1]), false);
        }
        due("LENGTH 0 stays", x.look(30), 3);
        x.pulses(2, 1);
        x.step(0, 1, 5);
        x.step(2, 3, 9);
        due("swap(1, 3)", x.swap(1, 3), true);
        x.counter(1, 2);
        x.counter(3, 2);
        due("STEP 3 of PULSE 0", x.phase(0, 2), 5);
        due("STEP 1 of PULSE 0", x.phase(0, 1), 0);
        due("STEP 1 of the RECEIVER", x.phase(2, 1), 9);
    }

    private static void follow() {
        PathCycle x = stepped(4, 6);
        x.step(3, 0, 1);
        due("follow(true)", x.follow(true), false);
        due("without CHIEF", x.phase(3, 1), 0);
        x.wish(7, true);
        due("CHIEF's CHANGE -1 times 6", x.phase(3, 1), 18);
        due("follow(false)", x.follow(false), true);
        due("follow(false) again", x.follow(false), false);
        due("its own STEP", x.phase(3, 3), 3);
        due("look(11)", x.look(11), 0);
        due("follow(true)", x.follow(true), true);
        due("CHIEF again", x.phase(3, 1), 18);
        x.wish(3, true);
        due("another CHIEF: -1 times 6, from 0 to -1", x.phase(3, 1), 18);
        x.wish(0, true);
        due("CHIEF 0: CHANGE 0", x.phase(3, 1), 0);
    }

    private static void wish() {
        PathCycle x = new PathCycle();
        due("wish(7, false)", x.wish(7, false), false);
        due("wish(7, true)", x.wish(7, true), true);
        due("wish(7, true) again", x.wish(7, true), false);
        due("wish(3, true)", x.wish(3, true), true);
        due("CHIEF is the least", x.look(10), 3);
        due("wish(3, false)", x.wish(3, false), true);
        due("CHIEF is the other", x.look(10), 7);
        x.free(2, true);
        due("wish(2, false) of a FREE one", x.wish(2, false), false);
        due("FREE stays", x.path(2, 2), 1);
        due("wish(2, true) of a FREE one", x.wish(2, true), true);
        due("FREE no more", x.path(2, 2), 0);
        due("WISHED", x.path(2, 1), 1);
        int[] wrong = {-1, 9, LOW, HIGH};
        for (int path : wrong) {
            due("wish(" + path + ", true)", x.wish(path, true), false);
            due("wish(" + path + ", false)", x.wish(path, false), false);
        }
        due("look(5)", x.look(5), 2);
    }

    private static void free() {
        PathCycle x = new PathCycle();
        due("free(7, false)", x.free(7, false), false);
        due("free(7, true)", x.free(7, true), true);
        due("free(7, true) again", x.free(7, true), false);
        due("free(7, false)", x.free(7, false), true);
        x.wish(7, true);
        due("free(7, false) of a WISHED one", x.free(7, false), false);
        due("WISHED stays", x.path(7, 1), 1);
        due("free(7, true) of a WISHED one", x.free(7, true), true);
        due("WISHED no more", x.path(7, 1), 0);
        due("CHIEF no more", x.look(10), NONE);
        due("look(6)", x.look(6), 1);
        due("no LEAK", x.path(7, 3), 0);
        int[] wrong = {-1, 9, LOW, HIGH};
        for (int path : wrong) {
            due("free(" + path + ", true)", x.free(path, true), false);
            due("free(" + path + ", false)", x.free(path, false), false);
        }
    }

    private static void freeAll() {
        PathCycle x = new PathCycle();
        x.wish(7, true);
        x.free(8, true);
        due("freeAll(0, 1)", x.freeAll(0, 1), 1);
        due("WISHED one stays", x.path(7, 1), 1);
        due("FREE one stays", x.path(8, 2), 1);
        due("freeAll(0, 1) again", x.freeAll(0, 1), 0);
        due("freeAll(1, -1)", x.freeAll(1, -1), 2);
        due("freeAll(2, -1)", x.freeAll(2, -1), 4);
        due("freeAll(2, 1): no PATH has it", x.freeAll(2, 1), 0);
        due("look(6)", x.look(6), 8);
        x.free(0, false);
        due("FEWEST ahead of it", x.fewest(10), 2);
        due("freeAll(0, -1)", x.freeAll(0, -1), 1);
        due("FEWEST behind it", x.fewest(10), 1);
        int[][] wrong = {{-1, 0}, {3, 0}, {0, 2}, {0, -2}, {LOW, 0}, {HIGH, 0}, {0, LOW}, {0, HIGH}};
        for (int[] w : wrong) {
            due("freeAll(" + w[0] + ", " + w[1] + ")", x.freeAll(w[0], w[1]), NONE);
        }
    }

    private static void feedAndEnd() {
        PathCycle x = new PathCycle();
        for (int i = 1; i <= 20; i++) {
            due("feed " + i, x.feed(i, i, i, i, i), 20 * i);
        }
        due("feed 21", x.feed(1, 1, 1, 1, 1), NONE);
        due("look(12)", x.look(12), 400);
        due("end(401)", x.end(401), false);
        due("end(-1)", x.end(-1), false);
        due("end(LOW)", x.end(LOW), false);
        due("end(HIGH)", x.end(HIGH), false);
        due("end(400)", x.end(400), true);
        due("end(381)", x.end(381), true);
        due("feed beyond", x.feed(1, 1, 1, 1, 1), NONE);
        due("none come", x.look(12), 381);
        due("end(380)", x.end(380), true);
        due("feed to the full", x.feed(1, 1, 1, 1, 1), 400);
        due("end(0)", x.end(0), true);
        due("end(1)", x.end(1), false);
        due("look(12) at 0", x.look(12), 0);
        x.feed(0x70313d31, 0x3b2070, 0, 0, 0);
        x.end(4);
        x.feed(0x3b202020, 0x20202020, 0x20202020, 0x20202020, 0x20202020);
        due("the highest byte first", x.rows(), 1);
        due("its number", x.phase(0, 0), 1);
    }

    private static void rows() {
        PathCycle x = new PathCycle();
        x.counter(0, 12);
        x.counter(1, 12);
        dueRows(x, "p1=1 2 3;", 1);
        due("number 0", x.phase(0, 0), 1);
        due("number 2 modulo 3", x.phase(0, 143), 3);
        dueRows(x, " p3 = 23 007  0;r=5;  p2=0;  ", 3);
        due("ROWS not told are 0 alone", x.look(40), 1);
        due("0 alone", x.phase(0, 1), 0);
        due("PULSE 2", x.phase(2, 1), 7);
        due("its many numbers", x.look(42), 3);
        x.follow(false);
        due("RECEIVER", x.phase(3, 9), 5);
        x.step(3, 0, 23);
        due("RECEIVER and STEP", x.phase(3, 1), 4);
        dueRows(x, "r=1 2 3 4 5 6 7 8 9 10 11 12 13 14 15 16 17 18 19 20 21 22 23 0;", 1);
        due("24 numbers", x.look(43), 24);
        dueRows(x, "", 0);
        due("none told: RECEIVER", x.look(43), 1);
        dueRows(x, "   ", 0);
        dueRows(x, "p1=00000000000000000000000000000000000000000012;", 1);
        due("digits, as many as stand there", x.phase(0, 0), 12);
        x.turn(13);
        dueRows(x, "p1=12;", 1);
        dueFault(x, "p1=13;", 2, 3);
        x.pulses(5, 1);
        dueRows(x, "p5=1;p4=1;p3=1;p2=1;p1=1;r=1;", 6);
    }

    private static void rowsFaults() {
        PathCycle x = new PathCycle();
        dueRows(x, "p1=1 2;", 1);
        dueFault(x, "q1=1;", 1, 0);
        dueFault(x, " p4=1;", 1, 1);
        dueFault(x, "p0=1;", 1, 0);
        dueFault(x, "p", 1, 0);
        dueFault(x, "p =1;", 1, 0);
        dueFault(x, "p 1=1;", 1, 0);
        dueFault(x, "p12=1;", 1, 2);
        dueFault(x, "p1", 1, 2);
        dueFault(x, "p1 ", 1, 3);
        dueFault(x, "r1=1;", 1, 1);
        dueFault(x, "p1=", 1, 3);
        dueFault(x, "p1=;", 1, 3);
        dueFault(x, "p1= ;", 1, 4);
        dueFault(x, "p1==1;", 1, 3);
        dueFault(x, "p1=1", 1, 4);
        dueFault(x, "p1=1  ", 1, 6);
        dueFault(x, "p1=1,2;", 1, 4);
        dueFault(x, "p1=-1;", 1, 3);
        dueFault(x, "p1=1;;", 1, 5);
        dueFault(x, "p1=1;\u00e9", 1, 5);
        dueFault(x, "p1=1;\0", 1, 5);
        dueFault(x, "p1=24;", 2, 3);
        dueFault(x, "p1=1 2  99x", 2, 8);
        dueFault(x, "p1=4294967297;", 2, 3);
        dueFault(x, "p1=99999999999999999999999999999999999;", 2, 3);
        dueFault(x, "p1=1;p1", 3, 5);
        dueFault(x, "r=1; p2=1; r=99;", 3, 11);
        dueFault(x, "p1=1;p2=24;p1=1;", 2, 8);
        String full = "p1=1 1 1 1 1 1 1 1 1 1 1 1 1 1 1 1 1 1 1 1 1 1 1 1";
        dueFault(x, full + " 1;", 1, full.length() + 1);
        dueFault(x, full + " 99;", 1, full.length() + 1);
        dueFault(x, full + " ", 1, full.length() + 1);
        due("nothing is done", x.look(40), 2);
        due("ROW stays", x.phase(0, 0), 1);
    }

    private static void fault() {
        PathCycle x = new PathCycle();
        Tell.tape(x, "p1=1 q");
        due("fault(0) ahead of rows()", x.fault(0), 0);
        x.rows();
        due("fault(0)", x.fault(0), 1);
        due("fault(1)", x.fault(1), 5);
        int[] wrong = {2, -1, LOW, HIGH};
        for (int what : wrong) {
            due("fault(" + what + ")", x.fault(what), NONE);
        }
        x.pulses(2, 1);
        x.turn(8);
        due("fault(1) stays", x.fault(1), 5);
        dueRows(x, "r=1;", 1);
    }

    private static void lay() {
        PathCycle x = new PathCycle();
        x.wish(7, true);
        dueRows(x, "p1=1 2 3;", 1);
        x.counter(3, 12);
        x.step(0, 3, 5);
        x.step(3, 0, 5);
        x.follow(false);
        due("lay(0)", x.lay(0), 6);
        int[] whats = {4, 9, 11, 30, 31, 32, 33, 40, 5};
        int[] looks = {6, 1, 1, 3, 2, 1, 1, 1, 1};
        for (int i = 0; i < whats.length; i++) {
            due("laid FEWEST: look(" + whats[i] + ")", x.look(whats[i]), looks[i]);
        }
        due("PULSE 0 rests", x.phase(0, 5), 0);
        due("PULSE 1 by a third", x.phase(1, 2), 16);
        due("PULSE 2 by a half", x.phase(2, 3), 12);
        x.follow(false);
        due("RECEIVER rests", x.phase(3, 5), 0);
        due("lay(1)", x.lay(1), 6);
        due("laid COGS: GOOD", x.look(9), 1);
        due("laid COGS: FOLLOWS", x.look(11), 1);
        due("laid COGS: LENGTH 0", x.look(30), 6);
        due("laid COGS: LENGTH 1", x.look(31), 1);
        due("PULSE 1 by W 1", x.phase(1, 5), 20);
        due("PULSE 2 by W 4", x.phase(2, 1), 16);
    }

    private static void layRefuses() {
        PathCycle x = stepped(4, 6);
        x.follow(false);
        due("lay(0) without WISHED", x.lay(0), NONE);
        due("lay(1) without WISHED", x.lay(1), NONE);
        x.wish(7, true);
        int[] wrong = {2, -1, LOW, HIGH};
        for (int what : wrong) {
            due("lay(" + what + ")", x.lay(what), NONE);
        }
        due("nothing is done", x.look(4), 4);
        due("nothing is done: FOLLOWS", x.look(11), 0);
        x.pulses(5, 3);
        x.wish(1000, true);
        due("more than 512 SCANS: FEWEST are", x.fewest(10), 1152);
        due("more than 512 SCANS", x.lay(0), NONE);
        due("nothing is done: SCANS", x.look(4), 1);
        x.pulses(5, 1);
        for (int path = 0; path < 81; path++) {
            x.free(path, path != 0 && path != 1 && path != 80);
        }
        due("CHIEF", x.wish(40, true), true);
        due("some FEWEST", x.fewest(10) > 1, true);
        due("laid as many", x.lay(0), x.fewest(10));
    }

    /** Five PULSES, T 6, all FREE but some: halves at PULSE 0 and thirds at all others are the least. */
    private static void layFive() {
        PathCycle x = new PathCycle();
        x.turn(6);
        x.pulses(5, 3);
        Tell.freeEvery(x);
        x.wish(x.find(0, 0, 0, 0), true);
        for (int to = 1; to < 5; to++) {
            dueAsked(x, 3, 0, to);
            for (int from = 0; from < to; from++) {
                dueAsked(x, 2, from, to);
            }
        }
        due("FEWEST of five", x.fewest(10), 162);
        int[] is = {2, 3, 3, 3, 3};
        for (int k = 0; k < 5; k++) {
            due("FEWEST of five: N " + k, x.fewest(k), is[k]);
        }
        x.counter(0, 4);
        due("five COUNTERS", x.lay(0), NONE);
        due("five COUNTERS: nothing is done", x.look(4), 4);
        due("five COUNTERS: T by SCANS", x.share(4), Float.floatToIntBits(1.5f));
    }

    /** The PATH with this ORDER behind the PULSES from .. to less 1, 0 behind the others, is not FREE any more. */
    private static void dueAsked(PathCycle x, int order, int from, int to) {
        int[] orders = new int[4];
        for (int k = from; k < to; k++) {
            orders[k] = order;
        }
        due("not FREE", x.free(x.find(orders[0], orders[1], orders[2], orders[3]), false), true);
    }

    private static void layGreat() {
        PathCycle x = new PathCycle();
        x.turn(8);
        x.pulses(4, 3);
        Tell.freeEvery(x);
        x.wish(x.find(-3, -3, -3, 0), true);
        for (int from = 0; from < 3; from++) {
            for (int to = from + 1; to < 4; to++) {
                int[] orders = {-3, -3, -3};
                for (int k = from; k < to; k++) {
                    orders[k] = 1;
                }
                due("not FREE", x.free(x.find(orders[0], orders[1], orders[2], 0), false), true);
            }
        }
        due("512 SCANS", x.lay(0), 512);
        due("three COUNTERS", x.look(32), 8);
        due("GOOD", x.look(9), 1);
        due("a half is enough for those that are left", x.spare(1), 2);
        x.pulses(5, 1);
        x.turn(24);
        x.wish(x.find(0, 0, 0, 0), true);
        int scans = x.fewest(10);
        due("four COUNTERS", x.lay(0), scans);
        due("the fourth one", x.look(33) > 1, true);
        due("four COUNTERS: GOOD", x.look(9), 1);
    }

    private static void order() {
        PathCycle x = new PathCycle();
        x.pulses(4, 2);
        due("order(0, 0)", x.order(0, 0), -2);
        due("order(1, 2)", x.order(1, 2), -1);
        due("order(5, 1)", x.order(5, 1), -1);
        due("order(124, 2)", x.order(124, 2), 2);
        due("order(124, 3)", x.order(124, 3), -1);
        int[][] wrong = {{-1, 0}, {125, 0}, {0, -1}, {0, 4}, {LOW, 0}, {HIGH, 0}, {0, LOW}, {0, HIGH}};
        for (int[] w : wrong) {
            due("order(" + w[0] + ", " + w[1] + ")", x.order(w[0], w[1]), -10);
        }
    }

    private static void find() {
        PathCycle x = new PathCycle();
        x.pulses(5, 3);
        due("find the first", x.find(-3, -3, -3, -3), 0);
        due("find the last", x.find(3, 3, 3, 3), 2400);
        due("find another", x.find(0, 1, -2, 3), 3 * 343 + 4 * 49 + 7 + 6);
        due("find too high", x.find(0, 0, 0, 4), NONE);
        due("find too low", x.find(-4, 0, 0, 0), NONE);
        due("find far off", x.find(0, LOW, HIGH, 0), NONE);
        x.pulses(2, 1);
        due("find asks one alone", x.find(1, 9, LOW, HIGH), 2);
        x.pulses(1, 1);
        due("find asks none", x.find(9, 9, 9, 9), 0);
        x.pulses(3, 1);
        x.kind(1, 1);
        due("find by KINDS", x.find(1, -1, 0, 0), 2);
        due("find what KINDS don't keep", x.find(1, 1, 0, 0), NONE);
    }

    private static void phase() {
        PathCycle x = stepped(5, 7);
        dueRows(x, "p2=3 0;", 1);
        int[] phases = {3, 7, 17, 21, 7};
        for (int s = 0; s < 5; s++) {
            due("phase(1, " + s + ")", x.phase(1, s), phases[s]);
        }
        x.wish(8, true);
        due("CHIEF's CHANGE 0", x.phase(3, 3), 0);
        x.wish(6, true);
        due("CHIEF's CHANGE -2", x.phase(3, 1), 24 - 14);
        int[][] wrong = {{-1, 0}, {4, 0}, {0, -1}, {0, 5}, {LOW, 0}, {HIGH, 0}, {0, LOW}, {0, HIGH}};
        for (int[] w : wrong) {
            due("phase(" + w[0] + ", " + w[1] + ")", x.phase(w[0], w[1]), NONE);
        }
    }

    private static void residue() {
        PathCycle x = stepped(5, 7);
        due("CHANGE 1", x.residue(1, 1), 7);
        due("CHANGE -2", x.residue(6, 2), (48 - 28) % 24);
        due("CHANGE 2", x.residue(2, 4), 56 % 24);
        x.wish(1, true);
        due("CHIEF itself", x.residue(1, 1), 0);
        due("less CHIEF's", x.residue(6, 1), 3);
        x.follow(false);
        x.step(3, 0, 20);
        due("less its own", x.residue(1, 1), 11);
        int[][] wrong = {{-1, 0}, {9, 0}, {0, -1}, {0, 5}, {LOW, 0}, {HIGH, 0}, {0, LOW}, {0, HIGH}};
        for (int[] w : wrong) {
            due("residue(" + w[0] + ", " + w[1] + ")", x.residue(w[0], w[1]), NONE);
        }
    }

    private static void many() {
        PathCycle x = stepped(10, 8);
        due("at 0, 3, 6, 9", x.many(1, 0), 4);
        due("at 1, 4, 7", x.many(1, 8), 3);
        due("never", x.many(1, 1), 0);
        due("always", x.many(0, 0), 10);
        int[][] wrong = {{-1, 0}, {9, 0}, {0, -1}, {0, 24}, {LOW, 0}, {HIGH, 0}, {0, LOW}, {0, HIGH}};
        for (int[] w : wrong) {
            due("many(" + w[0] + ", " + w[1] + ")", x.many(w[0], w[1]), NONE);
        }
    }

    private static void path() {
        PathCycle x = stepped(3, 8);
        x.wish(1, true);
        x.free(2, true);
        due("WHOLE", x.path(1, 0), 2);
        due("less CHIEF's 1: VANISHES", x.path(0, 0), 0);
        due("the same CHANGE behind PULSE 1: WHOLE", x.path(5, 0), 2);
        due("LEAK", x.path(5, 3), 1);
        due("no LEAK: VANISHES", x.path(0, 3), 0);
        due("no LEAK: WISHED", x.path(1, 3), 0);
        due("no LEAK: FREE", x.path(2, 3), 0);
        x.counter(0, 4);
        due("PARTLY", x.path(0, 0), 1);
        x.weight(0, 0, 7);
        due("WEIGHT", x.path(5, 7), 7);
        x.gradient(1, 3);
        due("SPOILED", x.path(0, 6), 1);
        due("GONE", x.path(0, 8), 1);
        due("not GONE", x.path(1, 8), 0);
        due("GONE, but not without SUM", x.path(0, 0), 1);
        due("no LEAK: GONE", x.path(0, 3), 0);
        due("CHANGES of 1, 0, -1", x.path(7, 4), 3);
        due("CHANGES of -1, -1, -1", x.path(0, 4), 1);
        due("greatest of 0, 0, -1", x.path(4, 5), 1);
        due("WISHED", x.path(1, 1), 1);
        due("not WISHED", x.path(2, 1), 0);
        due("FREE", x.path(2, 2), 1);
        due("not FREE", x.path(1, 2), 0);
        int[][] wrong = {{-1, 0}, {9, 0}, {0, -1}, {0, 9}, {LOW, 0}, {HIGH, 0}, {0, LOW}, {0, HIGH}};
        for (int[] w : wrong) {
            due("path(" + w[0] + ", " + w[1] + ")", x.path(w[0], w[1]), NONE);
        }
        x.pulses(3, 3);
        due("greatest of -3, 2, -1", x.path(x.find(-3, 2, 0, 0), 5), 3);
        x.turn(30);
        dueRows(x, "p1=5 6 12 18 24 25;", 1);
        x.counter(0, 6);
        due("turns that are nothing without a common step", x.path(x.find(1, 1, 0, 0), 0), 0);
        due("the same ones twice over", x.path(x.find(2, 2, 0, 0), 0), 1);
        for (int t = 2; t <= 12; t++) {
            x.turn(t);
            x.counter(0, t);
            x.step(0, 0, 1);
            due("once round, T " + t, x.path(x.find(1, 1, 0, 0), 0), 0);
            x.counter(0, t - 1);
            due("not all round, T " + t, x.path(x.find(1, 1, 0, 0), 0) > 0, true);
        }
    }

    private static void leak() {
        PathCycle x = stepped(4, 6);
        x.wish(4, true);
        x.free(0, true);
        x.weight(0, 1, 0);
        due("GONE and FREE are none", x.leak(NONE), 0);
        x.weight(0, 1, 1);
        due("those of the same CHANGE", x.leak(NONE), 1);
        due("leak(0)", x.leak(0), 8);
        due("leak(1)", x.leak(1), NONE);
        x.free(0, false);
        due("one more", x.leak(NONE), 2);
        due("leak(0): the least", x.leak(0), 0);
        due("leak(1): the next", x.leak(1), 8);
        due("leak(-2)", x.leak(-2), NONE);
        due("leak(LOW)", x.leak(LOW), NONE);
        due("leak(HIGH)", x.leak(HIGH), NONE);
    }

    private static void worst() {
        PathCycle x = new PathCycle();
        x.wish(7, true);
        x.weight(1, 0, 4);
        x.weight(2, 2, 9);
        int[] numbers = {8, 2, 5, 0, 4, 1, 3, 6};
        int[] weights = {36, 9, 9, 4, 4, 1, 1, 1};
        for (int i = 0; i < numbers.length; i++) {
            due("worst(" + i + ", 0)", x.worst(i, 0), numbers[i]);
            due("worst(" + i + ", 1)", x.worst(i, 1), weights[i]);
        }
        int[][] wrong = {{8, 0}, {-1, 0}, {0, 2}, {0, -1}, {LOW, 0}, {HIGH, 0}, {0, LOW}, {0, HIGH}};
        for (int[] w : wrong) {
            due("worst(" + w[0] + ", " + w[1] + ")", x.worst(w[0], w[1]), NONE);
        }
    }

    private static void stopped() {
        PathCycle x = stepped(4, 6);
        x.counter(1, 3);
        x.step(1, 1, 4);
        x.counter(3, 2);
        x.step(1, 3, 12);
        x.wish(4, true);
        dueRows(x, "p2=1 2 3 4;", 1);
        due("by a CHANGE of 1", x.stopped(1), 1 + 8);
        due("by a CHANGE of -2", x.stopped(6), 1 + 2);
        due("CHIEF by none", x.stopped(4), 0);
        x.step(1, 1, 8);
        due("by a third", x.stopped(1), 1 + 2 + 8);
        x.counter(2, 5);
        x.turn(10);
        x.counter(2, 5);
        x.step(0, 2, 2);
        due("by PULSE 0, less CHIEF's 0", x.stopped(0), 4);
        due("by PULSE 0: CHANGE 0", x.stopped(3), 0);
        x.step(2, 2, 8);
        due("by PULSE 2, too: it does just as much", x.stopped(0), 4);
        x.turn(24);
        x.counter(0, 4);
        x.step(1, 0, 6);
        x.follow(false);
        x.step(3, 0, 6);
        due("by the RECEIVER", x.stopped(0), 1);
        due("by both: not", x.stopped(1) & 1, 0);
        int[] wrong = {-1, 9, LOW, HIGH};
        for (int path : wrong) {
            due("stopped(" + path + ")", x.stopped(path), NONE);
        }
    }

    private static void spare() {
        PathCycle x = new PathCycle();
        x.wish(7, true);
        x.lay(0);
        due("spare(0)", x.spare(0), 3);
        due("spare(1)", x.spare(1), 2);
        due("spare(2)", x.spare(2), 1);
        x.counter(0, 12);
        due("spare(0) of 12", x.spare(0), 3);
        x.counter(1, 1);
        due("spare(0) alone", x.spare(0), NONE);
        due("spare(1) of 1", x.spare(1), 2);
        due("LENGTH stays", x.look(30), 12);
        due("LEAKS stay", x.look(7), 2);
        int[] wrong = {-1, 4, LOW, HIGH};
        for (int counter : wrong) {
            due("spare(" + counter + ")", x.spare(counter), NONE);
        }
        x.wish(7, false);
        x.free(7, true);
        due("nothing WISHED", x.spare(1), NONE);
        x.wish(7, true);
        x.counter(0, 3);
        x.counter(2, 12);
        x.counter(3, 12);
        due("one that lacks 512 SCANS", x.look(4), 432);
        due("spare(1) beyond 512 SCANS", x.spare(1), NONE);
        x.counter(3, 7);
        due("spare(1) at 504 SCANS", x.spare(1), 2);
        x.gradient(0, 1);
        due("WISHED one is GONE", x.spare(1), NONE);
        x.pulses(2, 1);
        x.wish(0, true);
        x.free(2, true);
        x.step(0, 3, 2);
        due("spare of a twelfth", x.spare(3), 12);
        x.step(0, 3, 1);
        due("spare of a 24th", x.spare(3), NONE);
        x.step(0, 3, 3);
        x.counter(0, 8);
        x.counter(1, 8);
        due("spare to 512 SCANS", x.spare(3), 8);
        x.counter(1, 9);
        due("spare to 576 SCANS", x.spare(3), NONE);
    }

    private static void soonest() {
        PathCycle x = new PathCycle();
        due("nothing WISHED", x.soonest(), NONE);
        x.wish(7, true);
        due("LEAKS", x.soonest(), NONE);
        x.lay(1);
        due("all six", x.soonest(), 6);
        x.counter(0, 12);
        due("six of twelve", x.soonest(), 6);
        for (int path = 0; path < 9; path++) {
            x.free(path, path != 7 && path != 8);
        }
        due("two do", x.soonest(), 2);
        x.free(8, true);
        due("one does", x.soonest(), 1);
        x.wish(8, true);
        due("from one on", x.soonest(), 1);
        x.weight(2, 2, 0);
        due("WISHED one is GONE", x.soonest(), NONE);
        x.pulses(4, 3);
        due("343 PATHS", x.look(3), 343);
        x.wish(5, true);
        for (int o = -3; o <= 3; o++) {
            x.freeAll(0, o);
        }
        due("GOOD", x.look(9), 1);
        due("more than 200 PATHS", x.soonest(), NONE);
        x.pulses(5, 2);
        x.kind(4, 2);
        x.kind(3, 2);
        due("PATHS", x.look(3), 200);
        x.wish(5, true);
        Tell.freeEvery(x);
        due("200 PATHS", x.soonest(), 1);
        due("200 PATHS: COGS", x.cogs(10), 1);
        x.kind(0, 2);
        x.kind(1, 2);
        x.kind(3, 0);
        x.kind(4, 0);
        due("PATHS", x.look(3), 225);
        x.wish(5, true);
        Tell.freeEvery(x);
        due("225 PATHS", x.soonest(), NONE);
        due("225 PATHS: COGS", x.cogs(10), NONE);
    }

    private static void lost() {
        PathCycle x = stepped(2, 12);
        due("none WISHED", x.lost(NONE), 0);
        for (int path = 0; path < 9; path++) {
            x.wish(path, true);
        }
        due("of CHANGES 1, -1", x.lost(NONE), 4);
        due("lost(0)", x.lost(0), 1);
        due("lost(3)", x.lost(3), 7);
        due("lost(4)", x.lost(4), NONE);
        x.weight(0, 0, 0);
        due("GONE, too", x.lost(NONE), 5);
        due("lost(2)", x.lost(2), 4);
        due("lost(-2)", x.lost(-2), NONE);
        due("lost(LOW)", x.lost(LOW), NONE);
        due("lost(HIGH)", x.lost(HIGH), NONE);
    }

    private static void early() {
        PathCycle x = stepped(7, 8);
        int[] states = {2, 1, 0, 1, 1, 0, 1};
        for (int scans = 1; scans <= 7; scans++) {
            due("early(1, " + scans + ")", x.early(1, scans), states[scans - 1]);
            due("early(0, " + scans + ")", x.early(0, scans), 2);
        }
        int[][] wrong = {{-1, 1}, {9, 1}, {0, 0}, {0, 8}, {0, -1}, {LOW, 1}, {HIGH, 1}, {0, LOW}, {0, HIGH}};
        for (int[] w : wrong) {
            due("early(" + w[0] + ", " + w[1] + ")", x.early(w[0], w[1]), NONE);
        }
    }

    private static void until() {
        PathCycle x = stepped(7, 8);
        int[] least = {3, 3, 3, 6, 6, 6, NONE};
        for (int at = 1; at <= 7; at++) {
            due("until(1, " + at + ")", x.until(1, at), least[at - 1]);
            due("until(0, " + at + ")", x.until(0, at), NONE);
        }
        int[][] wrong = {{-1, 1}, {9, 1}, {1, 0}, {1, 8}, {1, -1}, {LOW, 1}, {HIGH, 1}, {1, LOW}, {1, HIGH}};
        for (int[] w : wrong) {
            due("until(" + w[0] + ", " + w[1] + ")", x.until(w[0], w[1]), NONE);
        }
        x.counter(0, 3);
        due("until at the last SCAN", x.until(1, 3), 3);
    }

    private static void fewest() {
        PathCycle x = new PathCycle();
        due("nothing WISHED", x.fewest(10), NONE);
        due("nothing WISHED: N", x.fewest(0), NONE);
        x.wish(7, true);
        int[] whats = {10, 0, 1, 2, 3, -1, 9, 11, LOW, HIGH};
        int[] is = {6, 1, 3, 2, NONE, NONE, NONE, NONE, NONE, NONE};
        for (int i = 0; i < whats.length; i++) {
            due("fewest(" + whats[i] + ")", x.fewest(whats[i]), is[i]);
        }
        x.counter(0, 5);
        x.follow(false);
        due("THE CYCLE does not matter", x.fewest(10), 6);
        x.turn(8);
        due("N that divide 8: 1, 4, 2", x.fewest(10), 8);
        x.turn(6);
        due("N that divide 6", x.fewest(10), 6);
        x.turn(5);
        due("N that divide 5", x.fewest(10), 25);
        x.turn(7);
        due("N that divide 7", x.fewest(10), 49);
        x.turn(13);
        due("1 alone divides 13", x.fewest(10), NONE);
        x.turn(24);
        x.wish(8, true);
        due("two WISHED", x.fewest(10), NONE);
        for (int path = 0; path < 7; path++) {
            x.free(path, true);
        }
        due("all others FREE", x.fewest(10), 1);
        x.free(3, false);
        due("one not FREE", x.fewest(10), 2);
        due("the least N of PULSE 0", x.fewest(0), 2);
        x.weight(2, 0, 0);
        due("GONE", x.path(3, 8), 1);
        due("GONE ones do not matter", x.fewest(10), 1);
        x.weight(2, 2, 0);
        due("WISHED one is GONE", x.fewest(10), NONE);
    }

    private static void cogs() {
        PathCycle x = new PathCycle();
        due("nothing WISHED", x.cogs(10), NONE);
        x.wish(7, true);
        int[] whats = {10, 0, 1, 2, 3, -1, 9, 11, LOW, HIGH};
        int[] is = {6, 0, 1, 4, NONE, NONE, NONE, NONE, NONE, NONE};
        for (int i = 0; i < whats.length; i++) {
            due("cogs(" + whats[i] + ")", x.cogs(whats[i]), is[i]);
        }
        x.turn(8);
        due("L that divides 8", x.cogs(10), 8);
        x.turn(7);
        due("L that divides 7", x.cogs(10), 7);
        x.turn(5);
        due("L that divides 5", x.cogs(10), NONE);
        x.turn(45);
        due("L that divides 45", x.cogs(10), 9);
        x.turn(26);
        due("L is 12 at most", x.cogs(10), NONE);
        x.turn(24);
        x.wish(8, true);
        for (int path = 0; path < 7; path++) {
            x.free(path, true);
        }
        due("all others FREE", x.cogs(10), 1);
        due("W", x.cogs(1), 0);
        x.free(3, false);
        due("one not FREE", x.cogs(10), 2);
        x.weight(0, 0, 0);
        due("GONE ones do not matter", x.cogs(10), 1);
        x.weight(2, 2, 0);
        due("WISHED one is GONE", x.cogs(10), NONE);
    }

    private static void cogsOfMany() {
        PathCycle x = new PathCycle();
        x.pulses(5, 1);
        x.wish(0, true);
        for (int o = -1; o <= 1; o++) {
            x.freeAll(0, o);
        }
        due("81 PATHS", x.cogs(10), 1);
        x.pulses(4, 3);
        x.wish(0, true);
        for (int o = -3; o <= 3; o++) {
            x.freeAll(0, o);
        }
        due("343 PATHS: FEWEST", x.fewest(10), 1);
        due("343 PATHS: COGS", x.cogs(10), NONE);
        due("343 PATHS: lay(1)", x.lay(1), NONE);
        due("343 PATHS: share(3)", x.share(3), NONE);
        x.kind(3, 2);
        due("147 PATHS", x.look(3), 147);
        x.wish(0, true);
        for (int o = -3; o <= 3; o++) {
            x.freeAll(0, o);
        }
        due("147 PATHS: COGS", x.cogs(10), 1);
    }

    /** T 12; four PATHS that PULSE 1 alone can stop at once: by twelfths. */
    private static void twelfths() {
        PathCycle x = new PathCycle();
        x.turn(12);
        x.pulses(3, 3);
        Tell.freeEvery(x);
        x.wish(x.find(3, -3, 0, 0), true);
        int[][] asked = {{-3, -3}, {3, 3}, {-1, -3}, {3, 1}};
        for (int[] orders : asked) {
            x.free(x.find(orders[0], orders[1], 0, 0), false);
        }
        int[] is = {1, 12, 1};
        int[] w = {0, 1, 0};
        for (int k = 0; k < 3; k++) {
            due("twelfths: fewest(" + k + ")", x.fewest(k), is[k]);
            due("twelfths: cogs(" + k + ")", x.cogs(k), w[k]);
        }
        due("twelfths: fewest(10)", x.fewest(10), 12);
        due("twelfths: cogs(10)", x.cogs(10), 12);
        due("twelfths laid", x.lay(0), 12);
        due("twelfths: GOOD", x.look(9), 1);
    }

    private static void power() {
        int[] turns = {2, 3, 4, 6};
        int[] powers = {1, 1, 8, 13};
        String[] rows = {"p2=0 0 0 1 1;", "p2=0 1 1 2 0;", "p2=0 0 1 1 1 3;", "p2=0 0 1 1 2;"};
        int[] lengths = {5, 5, 6, 5};
        for (int i = 0; i < turns.length; i++) {
            PathCycle x = new PathCycle();
            x.turn(turns[i]);
            x.counter(0, lengths[i]);
            dueRows(x, rows[i], 1);
            due("POWER, T " + turns[i], x.power(1), powers[i]);
            due("POWER of a WHOLE one", x.power(0), lengths[i] * lengths[i]);
            int[] wrong = {-1, 9, LOW, HIGH};
            for (int path : wrong) {
                due("power(" + path + ")", x.power(path), NONE);
            }
        }
        PathCycle x = new PathCycle();
        for (int t = 2; t <= 48; t++) {
            x.turn(t);
            due("POWER, T " + t, x.power(0), t == 2 || t == 3 || t == 4 || t == 6 ? 1 : NONE);
        }
        x.turn(6);
        x.counter(0, 8);
        x.counter(1, 8);
        x.counter(2, 8);
        due("the greatest POWER", x.power(0), 262144);
    }

    private static void would() {
        PathCycle x = new PathCycle();
        due("nothing WISHED", x.would(1, 1, 1, 1, 1), NONE);
        x.wish(7, true);
        due("all", x.would(1, 1, 1, 0, 0), 8);
        due("none", x.would(1, 3, 2, 13, LOW), 0);
        due("PULSE 0 by halves", x.would(2, 1, 1, 1, 1), 5);
        due("PULSE 0 by thirds", x.would(3, 1, 1, 1, 1), 2);
        x.free(8, true);
        due("FREE ones are not", x.would(3, 1, 1, 1, 1), 1);
        x.weight(2, 0, 0);
        due("GONE ones are not", x.would(3, 1, 1, 1, 1), 0);
        due("PULSE 1 by halves, GONE ones aside", x.would(1, 2, 1, 1, 1), 2);
        x.weight(2, 1, 0);
        due("WISHED one is GONE", x.would(1, 1, 1, 1, 1), 2);
        int[][] wrong = {{0, 1, 1}, {-1, 1, 1}, {5, 1, 1}, {1, 9, 1}, {1, 1, 24}, {LOW, 1, 1}, {1, 1, HIGH}, {1, -2, 1}};
        for (int[] w : wrong) {
            due("would(" + w[0] + ", " + w[1] + ", " + w[2] + ")", x.would(w[0], w[1], w[2], 1, 1), NONE);
        }
        x.pulses(5, 1);
        x.wish(0, true);
        due("five are asked", x.would(1, 1, 1, 1, 5), NONE);
        due("five", x.would(12, 12, 12, 12, 12), 0);
        due("five of 1", x.would(1, 1, 1, 1, 1), 80);
    }

    private static void dueShare(PathCycle x, int what, int above, int below) {
        due("share(" + what + ")", x.share(what), Float.floatToIntBits((float) above / (float) below));
        due("part(" + what + ")", x.part(what), Double.doubleToLongBits((double) above / (double) below));
    }

    private static void dueNoShare(PathCycle x, int what) {
        due("share(" + what + ")", x.share(what), NONE);
        due("part(" + what + ")", x.part(what), NONE);
    }

    private static void shareAndPart() {
        PathCycle x = stepped(7, 8);
        int[] wrong = {2, 3, 5, -1, LOW, HIGH};
        for (int what : wrong) {
            dueNoShare(x, what);
        }
        x.wish(7, true);
        dueShare(x, 0, 8, 9);
        dueShare(x, 1, 9, 9);
        dueShare(x, 2, 7, 6);
        dueShare(x, 3, 7, 6);
        dueShare(x, 4, 24, 7);
        x.counter(0, 3);
        x.free(8, true);
        dueShare(x, 0, 2, 9);
        dueShare(x, 1, 3, 9);
        x.weight(0, 0, 0);
        dueShare(x, 0, 1, 9);
        dueShare(x, 1, 3, 9);
        for (int scans = 1; scans <= 12; scans++) {
            x.counter(0, scans);
            x.counter(1, 12);
            x.counter(2, 3);
            dueShare(x, 4, 24, 36 * scans);
        }
        x.pulses(1, 1);
        x.kind(0, 1);
        dueNoShare(x, 0);
        dueNoShare(x, 1);
        dueShare(x, 4, 24, 1);
        x.pulses(5, 3);
        dueShare(x, 0, 2401, 2401);
        x.wish(0, true);
        for (int o = -3; o < 3; o++) {
            x.freeAll(0, o);
        }
        dueShare(x, 0, 343, 2401);
        x.freeAll(0, 3);
        x.free(2400, false);
        dueShare(x, 0, 1, 2401);
        x.free(2400, true);
        dueShare(x, 0, 0, 2401);
    }

    private static void image() {
        PathCycle x = new PathCycle();
        due("none yet", x.image(false), false);
        x.pulses(2, 2);
        x.turn(10);
        x.kind(1, 2);
        x.gradient(0, 4);
        x.weight(0, 2, 6);
        x.counter(1, 4);
        x.step(0, 1, 3);
        dueRows(x, "p2=1 9;", 1);
        x.follow(false);
        x.wish(0, true);
        x.free(1, true);
        due("taken", x.image(true), true);
        x.pulses(3, 1);
        x.turn(24);
        x.follow(true);
        dueFault(x, "p3=q", 1, 3);
        x.feed(1, 2, 3, 4, 5);
        for (int again = 0; again < 2; again++) {
            due("gone back", x.image(false), true);
            int[] whats = {0, 1, 2, 3, 4, 5, 6, 10, 11, 12, 20, 21, 31, 41, 50, 22};
            int[] looks = {2, 2, 10, 3, 4, 1, 1, 0, 0, 20, 0, 2, 4, 2, 4, -100};
            for (int i = 0; i < whats.length; i++) {
                due("gone back: look(" + whats[i] + ")", x.look(whats[i]), looks[i]);
            }
            due("gone back: WEIGHT", x.path(0, 7), 6);
            due("gone back: ORDER", x.order(0, 0), -2);
            due("gone back: STEP", x.phase(0, 3), 9);
            due("gone back: ROW", x.phase(1, 3), 9);
            due("fault() does not go back", x.fault(0), 1);
            x.kind(0, 1);
            x.wish(0, true);
            x.counter(1, 1);
            x.gradient(0, 0);
        }
        due("taken anew", x.image(true), true);
        x.pulses(4, 1);
        x.image(false);
        due("the newer one", x.look(31), 1);
    }

    private static void look() {
        PathCycle x = stepped(4, 6);
        x.wish(4, true);
        x.wish(1, true);
        x.weight(0, 1, 3);
        int[] looks = {3, 1, 24, 9, 4, 2, 0, 1, 1, 0, 1, 1, 0, 1, 3};
        for (int what = 0; what < looks.length; what++) {
            due("look(" + what + ")", x.look(what), looks[what]);
        }
        x.free(5, true);
        x.weight(2, 2, 0);
        x.wish(4, false);
        x.free(6, true);
        due("LEAKS' WEIGHTS", x.look(13), 0);
        due("GOOD", x.look(9), 1);
        x.weight(1, 0, 0);
        x.feed(0, 0, 0, 0, 0);
        int[] others = {3, 1, 24, 9, 4, 1, 2, 0, 0, 1, 1, 1, 20, 0, 3};
        x.weight(2, 1, 3);
        x.weight(2, 2, 1);
        x.weight(0, 1, 1);
        x.free(5, true);
        x.wish(1, true);
        for (int what = 0; what < others.length; what++) {
            due("then look(" + what + ")", x.look(what), others[what]);
        }
        int[] wrong = {15, 19, 23, 29, 34, 39, 44, 49, 53, 59, 60, -1, -80, LOW, HIGH, 120};
        for (int what : wrong) {
            due("look(" + what + ")", x.look(what), -100);
        }
        x.pulses(5, 1);
        due("look(24)", x.look(24), 0);
        due("look(45)", x.look(45), 1);
        due("look(54)", x.look(54), 0);
        due("look(46)", x.look(46), -100);
        due("look(33)", x.look(33), 1);
        x.pulses(5, 3);
        for (int k = 0; k < 5; k++) {
            for (int change = 0; change < 7; change++) {
                x.weight(k, change, 9);
            }
        }
        due("the greatest WEIGHTS of LEAKS", x.look(13), 2401 * 59049);
    }
}
