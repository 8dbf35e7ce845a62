/** Each sentence of the document's Terms that names a boundary case, by a method of its own. */
public final class TermsTest {
    private static final int NONE = -1;
    private static final int LOW = Integer.MIN_VALUE;
    private static final int HIGH = Integer.MAX_VALUE;
    private static final Checks SEEN = new Checks();

    public static void main(String[] args) {
        pulsesAreOneToFive();
        pulsesHaveNumbers();
        ordersAreFromMinusMToM();
        kindAnyKeepsAll();
        kindTurningKeepsTheOtherSign();
        kindNearKeepsOneAtMost();
        kindIsAnyAtFirst();
        pathStartsAtNothingAndEndsAtMinusOne();
        noPathIsLeftByKinds();
        changeIsOrderLessTheOneAhead();
        pathsAreNumberedByOrders();
        nothingIsWishedOrFreeAtFirst();
        chiefIsTheLeastWished();
        gradientsAreNineAtMost();
        spoiledIsNotNothing();
        weightsAreNineAtMost();
        weightIsAllMultiplied();
        goneIsSpoiledOrWithoutWeight();
        toldAnewNothingIsWished();
        toldNAllIsAsAtFirst();
        turnIsTwoToFortyEight();
        lengthsAreTwelveAtMost();
        scansAreAtMost512();
        countersGoRound();
        rowsGoRound();
        phasesAreModuloT();
        stepsAreBelowT();
        toldTheCycleIsAsAtFirst();
        receiverFollowsChief();
        tapeHas400BytesAtMost();
        namesArePulsesAndReceiver();
        numbersAreBelowT();
        numbersAre24AtMost();
        digitsAreAsManyAsStandThere();
        blanksStandAheadAndAtTheEnd();
        rowsNotToldAreNothingAlone();
        faultsAreTheFirstByPlace();
        residuesAreModuloT();
        vanishesExactly();
        vanishesIfStepsCloseTheTurn();
        vanishesWithoutACommonStep();
        wholeIsAllAlike();
        leaksAreNeitherWishedNorFreeNorGone();
        lostOnesVanishOrAreGone();
        goodNeedsSomethingWished();
        stoppedByOneCounterAlone();
        fewestDivideTAndAreTwelveAtMost();
        fewestLeaveMultiples();
        fewestOfSeveralTheLeastFirst();
        fewestMustLeaveWishedAlone();
        fewestLeaveAllWished();
        cogsDivideTAndAreTwelveAtMost();
        cogsOfSeveralTheLeastFirst();
        cogsAndSoonestFor200PathsAtMost();
        powerIsForFourTurns();
        imageHoldsAllButTheTape();
        SEEN.end("TermsTest");
    }

    private static void due(String call, long got, long want) {
        SEEN.due(call, got, want);
    }

    private static void due(String call, boolean got, boolean want) {
        SEEN.due(call, got, want);
    }

    private static void dueRows(PathCycle x, String text, int rows) {
        due("rows of " + text, Tell.rows(x, text), rows);
        due("fault(0) of " + text, x.fault(0), 0);
        due("fault(1) of " + text, x.fault(1), NONE);
    }

    private static void dueFault(PathCycle x, String text, int fault, int place) {
        due("rows of " + text, Tell.rows(x, text), NONE);
        due("fault(0) of " + text, x.fault(0), fault);
        due("fault(1) of " + text, x.fault(1), place);
    }

    private static int countWith(PathCycle x, int what, int value) {
        int all = 0;
        for (int path = 0; path < x.look(3); path++) {
            all += x.path(path, what) == value ? 1 : 0;
        }
        return all;
    }

    private static int power(int base, int times) {
        int all = 1;
        for (int i = 0; i < times; i++) {
            all *= base;
        }
        return all;
    }

    // Terms 1

    /** "PULSES 0 .. n less 1 (n 3 at first; 1 .. 5), ORDERS -M .. M (M 1 at first; 1 .. 3)." */
    private static void pulsesAreOneToFive() {
        PathCycle x = new PathCycle();
        due("n at first", x.look(0), 3);
        due("M at first", x.look(1), 1);
        for (int n = -1; n <= 7; n++) {
            for (int m = -1; m <= 5; m++) {
                boolean can = n >= 1 && n <= 5 && m >= 1 && m <= 3;
                int before = x.look(0) * 10 + x.look(1);
                due("pulses(" + n + ", " + m + ")", x.pulses(n, m), can ? power(2 * m + 1, n - 1) : NONE);
                due("n and M behind " + n + ", " + m, x.look(0) * 10 + x.look(1), can ? n * 10 + m : before);
            }
        }
    }

    /** "PULSES 0 .. n less 1": the first, the last, and the one behind, which is the RECEIVER for some. */
    private static void pulsesHaveNumbers() {
        for (int n = 1; n <= 5; n++) {
            PathCycle x = new PathCycle();
            x.pulses(n, 3);
            for (int k = -1; k <= n + 1; k++) {
                boolean is = k >= 0 && k < n;
                boolean row = k >= 0 && k <= n;
                String of = n + " PULSES, PULSE " + k + ": ";
                due(of + "gradient", x.gradient(k, 0), is);
                due(of + "weight", x.weight(k, 0, 1), is);
                due(of + "step", x.step(k, 0, 1), row);
                due(of + "order", x.order(0, k), is ? (k == n - 1 ? -1 : -3) : NONE - 9);
                due(of + "phase", x.phase(k, 0), row ? 0 : NONE);
                due(of + "freeAll", x.freeAll(k, 3) == NONE, !is);
                if (k >= 0) {
                    due(of + "look(20 and k)", x.look(20 + k), is ? 0 : NONE - 99);
                    due(of + "look(40 and k)", x.look(40 + k), row ? 1 : NONE - 99);
                    due(of + "look(50 and k)", x.look(50 + k), is ? 0 : NONE - 99);
                }
                due(of + "kind", x.kind(k, 0), is);
            }
        }
    }

    /** "ORDERS -M .. M": behind each PULSE but the last. */
    private static void ordersAreFromMinusMToM() {
        for (int m = 1; m <= 3; m++) {
            PathCycle x = new PathCycle();
            int paths = x.pulses(4, m);
            for (int k = 0; k < 3; k++) {
                due("M " + m + ": the first's ORDER " + k, x.order(0, k), -m);
                due("M " + m + ": the last's ORDER " + k, x.order(paths - 1, k), m);
            }
            due("find -M", x.find(-m, -m, -m, 0), 0);
            due("find M", x.find(m, m, m, 0), paths - 1);
            due("find below, PULSE 0", x.find(-m - 1, m, m, 0), NONE);
            due("find above, PULSE 0", x.find(m + 1, -m, -m, 0), NONE);
            due("find below, PULSE 2", x.find(m, m, -m - 1, 0), NONE);
            due("find above, PULSE 2", x.find(-m, -m, m + 1, 0), NONE);
            due("freeAll below", x.freeAll(0, -m - 1), NONE);
            due("freeAll above", x.freeAll(0, m + 1), NONE);
            due("freeAll -M", x.freeAll(0, -m), paths / (2 * m + 1));
            due("freeAll M", x.freeAll(0, m), paths / (2 * m + 1));
        }
    }

    /** "A PULSE has a KIND: 0 any". */
    private static void kindAnyKeepsAll() {
        PathCycle x = new PathCycle();
        x.pulses(3, 3);
        x.kind(1, 2);
        due("kind(1, 0)", x.kind(1, 0), true);
        for (int a = -3; a <= 3; a++) {
            for (int b = -3; b <= 3; b++) {
                due("any: find(" + a + ", " + b + ")", x.find(a, b, 0, 0), (a + 3) * 7 + b + 3);
            }
        }
    }

    /** "1 TURNING: the ORDER behind it is the one ahead with the other sign": ahead of PULSE 0 it is 0. */
    private static void kindTurningKeepsTheOtherSign() {
        PathCycle x = new PathCycle();
        x.pulses(3, 3);
        x.kind(1, 1);
        for (int a = -3; a <= 3; a++) {
            for (int b = -3; b <= 3; b++) {
                due("TURNING 1: find(" + a + ", " + b + ")", x.find(a, b, 0, 0), b == -a ? a + 3 : NONE);
            }
        }
        x.kind(1, 0);
        x.kind(0, 1);
        for (int a = -3; a <= 3; a++) {
            due("TURNING 0: find(" + a + ")", x.find(a, -3, 0, 0), a == 0 ? 0 : NONE);
        }
        x.kind(0, 0);
        x.kind(2, 1);
        for (int b = -3; b <= 3; b++) {
            due("TURNING 2: find(-3, " + b + ")", x.find(-3, b, 0, 0), b == 1 ? 0 : NONE);
        }
    }

    /** "2 NEAR: it differs from the one ahead by 1 at most." */
    private static void kindNearKeepsOneAtMost() {
        PathCycle x = new PathCycle();
        x.pulses(3, 3);
        x.kind(1, 2);
        int number = 0;
        for (int a = -3; a <= 3; a++) {
            for (int b = -3; b <= 3; b++) {
                boolean is = b == a - 1 || b == a || b == a + 1;
                due("NEAR 1: find(" + a + ", " + b + ")", x.find(a, b, 0, 0), is ? number : NONE);
                number += is ? 1 : 0;
            }
        }
        due("NEAR 1: PATHS", x.look(3), 19);
        x.kind(1, 0);
        x.kind(0, 2);
        for (int a = -3; a <= 3; a++) {
            due("NEAR 0: find(" + a + ")", x.find(a, -3, 0, 0), a >= -1 && a <= 1 ? (a + 1) * 7 : NONE);
        }
        x.kind(0, 0);
        x.kind(2, 2);
        for (int b = -3; b <= 3; b++) {
            due("NEAR 2: find(-3, " + b + ")", x.find(-3, b, 0, 0), b >= -2 && b <= 0 ? b + 2 : NONE);
        }
    }

    /** "A PULSE has a KIND (0 at first)". */
    private static void kindIsAnyAtFirst() {
        PathCycle x = new PathCycle();
        for (int k = 0; k < 3; k++) {
            due("KIND at first", x.look(20 + k), 0);
        }
        x.kind(0, 1);
        x.kind(2, 2);
        x.pulses(5, 1);
        for (int k = 0; k < 5; k++) {
            due("KIND of five", x.look(20 + k), 0);
        }
        due("kind(0, -1)", x.kind(0, -1), false);
        due("kind(0, 3)", x.kind(0, 3), false);
    }

    /** "A PATH: an ORDER ahead of all PULSES, 0, and one behind each, the last -1". */
    private static void pathStartsAtNothingAndEndsAtMinusOne() {
        PathCycle x = new PathCycle();
        for (int m = 1; m <= 3; m++) {
            due("one PULSE alone has one PATH", x.pulses(1, m), 1);
            due("its ORDER", x.order(0, 0), -1);
            due("its CHANGES", x.path(0, 4), 1);
            due("its greatest ORDER", x.path(0, 5), 1);
        }
        for (int n = 2; n <= 5; n++) {
            int paths = x.pulses(n, 1);
            due("the first's last ORDER", x.order(0, n - 1), -1);
            due("the last's last ORDER", x.order(paths - 1, n - 1), -1);
        }
    }

    /** "so that KINDS are kept": that can leave none. */
    private static void noPathIsLeftByKinds() {
        PathCycle x = new PathCycle();
        x.pulses(1, 3);
        due("NEAR from 0 to -1", x.kind(0, 2) ? x.look(3) : 9, 1);
        due("TURNING from 0 to -1", x.kind(0, 1) ? x.look(3) : 9, 0);
        x.pulses(3, 3);
        x.kind(0, 1);
        x.kind(1, 1);
        due("from 0 to 0 to 0 to -1", x.look(3), 1);
        x.kind(2, 1);
        due("from 0 to 0 to 0 to 0", x.look(3), 0);
        due("no PATH: wish", x.wish(0, true), false);
        due("no PATH: free", x.free(0, true), false);
        due("no PATH: freeAll", x.freeAll(0, 0), 0);
        due("no PATH: order", x.order(0, 0), NONE - 9);
        due("no PATH: find", x.find(0, 0, 0, 0), NONE);
        due("no PATH: residue", x.residue(0, 0), NONE);
        due("no PATH: many", x.many(0, 0), NONE);
        due("no PATH: path", x.path(0, 0), NONE);
        due("no PATH: leak(NONE)", x.leak(NONE), 0);
        due("no PATH: leak(0)", x.leak(0), NONE);
        due("no PATH: worst", x.worst(0, 0), NONE);
        due("no PATH: stopped", x.stopped(0), NONE);
        due("no PATH: spare", x.spare(0), NONE);
        due("no PATH: soonest", x.soonest(), NONE);
        due("no PATH: lost(NONE)", x.lost(NONE), 0);
        due("no PATH: lost(0)", x.lost(0), NONE);
        due("no PATH: early", x.early(0, 1), NONE);
        due("no PATH: until", x.until(0, 1), NONE);
        due("no PATH: fewest", x.fewest(10), NONE);
        due("no PATH: cogs", x.cogs(10), NONE);
        due("no PATH: would", x.would(1, 1, 1, 1, 1), NONE);
        due("no PATH: lay(0)", x.lay(0), NONE);
        due("no PATH: lay(1)", x.lay(1), NONE);
        due("no PATH: GOOD", x.look(9), 0);
        due("no PATH: CHIEF", x.look(10), NONE);
        due("no PATH: WEIGHTS of LEAKS", x.look(13), 0);
        due("no PATH: WEIGHTS of WISHED ones", x.look(14), 0);
        due("no PATH: phase", x.phase(3, 0), 0);
        x.turn(4);
        due("no PATH: power", x.power(0), NONE);
    }

    /** "CHANGE k: ORDER behind PULSE k less that ahead": -6 .. 6, none at all, all. */
    private static void changeIsOrderLessTheOneAhead() {
        PathCycle x = new PathCycle();
        x.pulses(3, 3);
        due("0, 0, -1", x.path(x.find(0, 0, 0, 0), 4), 1);
        due("-1, -1, -1", x.path(x.find(-1, -1, 0, 0), 4), 1);
        due("0, -1, -1", x.path(x.find(0, -1, 0, 0), 4), 1);
        due("3, 3, -1", x.path(x.find(3, 3, 0, 0), 4), 2);
        due("0, 3, -1", x.path(x.find(0, 3, 0, 0), 4), 2);
        due("3, -1, -1", x.path(x.find(3, -1, 0, 0), 4), 2);
        due("3, -3, -1", x.path(x.find(3, -3, 0, 0), 4), 3);
        x.counter(0, 2);
        Tell.steps(x, 0, 0, 0, 0, 1);
        due("CHANGE of -6", x.residue(x.find(3, -3, 0, 0), 1), 18);
        due("CHANGE of 6", x.residue(x.find(-3, 3, 0, 0), 1), 6);
        Tell.steps(x, 1, 0, 0, 0, 0);
        due("CHANGE 0 of -3", x.residue(x.find(-3, 3, 0, 0), 1), 21);
        due("CHANGE 0 of 3", x.residue(x.find(3, 3, 0, 0), 1), 3);
        Tell.steps(x, 0, 0, 0, 0, 0, 0, 0, 0, 1);
        due("CHANGE 2 of 2", x.residue(x.find(3, -3, 0, 0), 1), 2);
        due("CHANGE 2 of -4", x.residue(x.find(-3, 3, 0, 0), 1), 20);
    }

    /** "PATHS have numbers, 0 on, by their ORDERS (behind PULSE 0 first; the lesser ahead)." */
    private static void pathsAreNumberedByOrders() {
        PathCycle x = new PathCycle();
        x.pulses(3, 2);
        due("the first", x.find(-2, -2, 0, 0), 0);
        due("the next", x.find(-2, -1, 0, 0), 1);
        due("the last with -2 behind PULSE 0", x.find(-2, 2, 0, 0), 4);
        due("the first with -1 behind PULSE 0", x.find(-1, -2, 0, 0), 5);
        due("the last but one", x.find(2, 1, 0, 0), 23);
        due("the last", x.find(2, 2, 0, 0), 24);
        due("none ahead of the first", x.order(-1, 0), NONE - 9);
        due("none behind the last", x.order(25, 0), NONE - 9);
        x.pulses(5, 3);
        due("the last of all", x.order(2400, 3), 3);
        due("none behind the last of all", x.order(2401, 3), NONE - 9);
        x.pulses(3, 2);
        x.kind(1, 1);
        for (int path = 0; path < 5; path++) {
            due("numbers without gaps", x.order(path, 0), path - 2);
        }
        due("five are left", x.order(5, 0), NONE - 9);
    }

    /** "A PATH is WISHED, or FREE, or neither (none at first)." */
    private static void nothingIsWishedOrFreeAtFirst() {
        PathCycle x = new PathCycle();
        due("WISHED at first", x.look(5), 0);
        due("FREE at first", x.look(6), 0);
        for (int path = 0; path < 9; path++) {
            due("neither", x.path(path, 1) + x.path(path, 2), 0);
        }
        for (int path = 0; path < 9; path++) {
            due("wish", x.wish(path, true), true);
        }
        due("all WISHED", x.look(5), 9);
        due("WISHED, so not FREE", x.look(6), 0);
        for (int path = 0; path < 9; path++) {
            due("free", x.free(path, true), true);
        }
        due("all FREE", x.look(6), 9);
        due("FREE, so not WISHED", x.look(5), 0);
        due("free no more", x.free(4, false), true);
        due("neither again", x.path(4, 1) + x.path(4, 2), 0);
    }

    /** "CHIEF: the WISHED one of the least number." */
    private static void chiefIsTheLeastWished() {
        PathCycle x = new PathCycle();
        due("without WISHED ones", x.look(10), NONE);
        x.wish(8, true);
        due("the last PATH", x.look(10), 8);
        x.wish(3, true);
        due("a lesser one", x.look(10), 3);
        x.wish(5, true);
        due("a greater one", x.look(10), 3);
        x.wish(0, true);
        due("PATH 0", x.look(10), 0);
        x.free(0, true);
        due("PATH 0 is FREE", x.look(10), 3);
        x.wish(3, false);
        due("3 no more", x.look(10), 5);
        x.free(0, false);
        due("PATH 0 is neither", x.look(10), 5);
        x.freeAll(0, 0);
        due("WISHED ones stay", x.look(10), 5);
        x.wish(5, false);
        x.wish(8, false);
        due("none any more", x.look(10), NONE);
    }

    /** "GRADIENTS: behind each PULSE one, -9 .. 9 (0 at first)." */
    private static void gradientsAreNineAtMost() {
        PathCycle x = new PathCycle();
        for (int k = 0; k < 3; k++) {
            due("GRADIENT at first", x.look(50 + k), 0);
            for (int v = -11; v <= 11; v++) {
                due("gradient(" + k + ", " + v + ")", x.gradient(k, v), v >= -9 && v <= 9);
                due("GRADIENT behind " + v, x.look(50 + k), v < -9 ? 0 : Math.min(v, 9));
            }
        }
    }

    /** "SPOILED is a PATH of which ORDERS times GRADIENTS behind the same PULSES are together not 0." */
    private static void spoiledIsNotNothing() {
        PathCycle x = new PathCycle();
        x.pulses(5, 3);
        int last = 2400;
        due("GRADIENTS 0", x.path(last, 6), 0);
        for (int k = 0; k < 4; k++) {
            x.gradient(k, k < 2 ? 9 : -9);
        }
        due("54 less 54", x.path(last, 6), 0);
        due("-54 and 54", x.path(0, 6), 0);
        x.gradient(4, 1);
        due("-1", x.path(last, 6), 1);
        x.gradient(4, -1);
        due("1", x.path(last, 6), 1);
        x.gradient(4, 0);
        x.gradient(3, 9);
        x.gradient(2, 9);
        due("108", x.path(last, 6), 1);
        due("-108", x.path(0, 6), 1);
        due("0", x.path(x.find(0, 0, 0, 0), 6), 0);
        x.pulses(1, 1);
        due("one PULSE: 0", x.path(0, 6), 0);
        x.gradient(0, -9);
        due("one PULSE: 9", x.path(0, 6), 1);
    }

    /** "WEIGHTS: of each PULSE for each CHANGE without sign (0 .. 6) one, 0 .. 9 (1 at first)". */
    private static void weightsAreNineAtMost() {
        PathCycle x = new PathCycle();
        x.pulses(3, 3);
        for (int path = 0; path < 49; path++) {
            due("WEIGHT at first", x.path(path, 7), 1);
        }
        for (int change = -2; change <= 8; change++) {
            for (int v = -2; v <= 11; v++) {
                boolean can = change >= 0 && change <= 6 && v >= 0 && v <= 9;
                due("weight(1, " + change + ", " + v + ")", x.weight(1, change, v), can);
            }
        }
        due("CHANGE 0", x.path(x.find(3, 3, 0, 0), 7), 9);
        due("CHANGE 6", x.path(x.find(-3, 3, 0, 0), 7), 9);
        due("CHANGE -6", x.path(x.find(3, -3, 0, 0), 7), 9);
        x.weight(1, 6, 2);
        due("both 6", countWith(x, 7, 2), 2);
        x.weight(1, 5, 3);
        due("all four 5", countWith(x, 7, 3), 4);
        x.weight(0, 0, 0);
        due("CHANGE 0 of PULSE 0", countWith(x, 7, 0), 7);
    }

    /** "WEIGHT of a PATH: those of its CHANGES multiplied": 0 .. 59049. */
    private static void weightIsAllMultiplied() {
        PathCycle x = new PathCycle();
        x.pulses(5, 3);
        for (int k = 0; k < 5; k++) {
            for (int change = 0; change <= 6; change++) {
                x.weight(k, change, 9);
            }
        }
        due("the greatest WEIGHT", x.path(2400, 7), 59049);
        due("that of all LEAKS", x.look(13), 141776649);
        x.weight(4, 4, 0);
        due("0 of one PULSE", x.path(2400, 7), 0);
        x.weight(4, 4, 1);
        due("1 of one PULSE", x.path(2400, 7), 6561);
    }

    /** "A PATH is GONE, if it is SPOILED, or its WEIGHT is 0." */
    private static void goneIsSpoiledOrWithoutWeight() {
        PathCycle x = new PathCycle();
        due("neither", x.path(8, 8), 0);
        x.gradient(0, 1);
        due("SPOILED", x.path(8, 8), 1);
        due("SPOILED: WEIGHT stays", x.path(8, 7), 1);
        x.weight(2, 2, 0);
        due("both", x.path(8, 8), 1);
        x.gradient(0, 0);
        due("WEIGHT 0", x.path(8, 8), 1);
        due("WEIGHT 0: not SPOILED", x.path(8, 6), 0);
        x.weight(2, 2, 1);
        due("neither again", x.path(8, 8), 0);
    }

    /** "n, M, a KIND told: nothing is WISHED or FREE any more." They may be what they were. */
    private static void toldAnewNothingIsWished() {
        for (int way = 0; way < 7; way++) {
            PathCycle x = new PathCycle();
            x.wish(3, true);
            x.free(5, true);
            boolean told = way < 4;
            switch (way) {
                case 0: x.pulses(3, 1); break;
                case 1: x.pulses(3, 2); break;
                case 2: x.kind(2, 0); break;
                case 3: x.kind(1, 2); break;
                case 4: x.pulses(6, 1); break;
                case 5: x.kind(2, 3); break;
                default: x.turn(24); break;
            }
            due("WISHED by way " + way, x.look(5), told ? 0 : 1);
            due("FREE by way " + way, x.look(6), told ? 0 : 1);
            due("CHIEF by way " + way, x.look(10), told ? NONE : 3);
        }
    }

    /** "n told: KINDS, GRADIENTS are 0, WEIGHTS 1, THE CYCLE is as at first (the RECEIVER FOLLOWS as it did)." */
    private static void toldNAllIsAsAtFirst() {
        for (int follows = 0; follows < 2; follows++) {
            boolean is = follows == 1;
            String change = Whole.difference(Whole.of(() -> {
                PathCycle x = told(is);
                x.pulses(3, 3);
                return x;
            }), Whole.of(() -> {
                PathCycle x = new PathCycle();
                x.pulses(3, 3);
                x.turn(12);
                x.follow(is);
                return x;
            }));
            due("n told, FOLLOWS " + is + ": " + change, change == null, true);
        }
    }

    /** n 3, M 3, T 12, and some of all that can be told else; THE TAPE is empty. */
    private static PathCycle told(boolean follows) {
        PathCycle x = new PathCycle();
        x.pulses(3, 3);
        x.turn(12);
        x.kind(0, 2);
        x.gradient(1, 4);
        x.weight(0, 0, 5);
        x.weight(1, 6, 7);
        x.weight(2, 4, 0);
        x.wish(2, true);
        x.free(4, true);
        Tell.lengths(x, 2, 3, 1, 4);
        Tell.steps(x, 1, 2, 3, 4, 5, 6, 7, 8, 9, 10, 11, 1, 2, 3, 4, 5);
        Tell.rows(x, "p1=1;p2=2 3;p3=4 5;r=6 7 8;");
        x.follow(follows);
        return Whole.asked(x);
    }

    // Terms 2

    /** "A TURN has T UNITS (24 at first; 2 .. 48)." */
    private static void turnIsTwoToFortyEight() {
        PathCycle x = new PathCycle();
        due("T at first", x.look(2), 24);
        int before = 24;
        for (int t = -3; t <= 52; t++) {
            boolean can = t >= 2 && t <= 48;
            due("turn(" + t + ")", x.turn(t), can);
            before = can ? t : before;
            due("T behind " + t, x.look(2), before);
            due("the greatest STEP", x.step(0, 0, before - 1), true);
            due("a STEP of T", x.step(0, 0, before), false);
        }
    }

    /** "COUNTERS 0 .. 3 with a LENGTH (1 at first; 1 .. 12". */
    private static void lengthsAreTwelveAtMost() {
        for (int j = -2; j <= 5; j++) {
            boolean is = j >= 0 && j <= 3;
            PathCycle x = new PathCycle();
            if (j >= 0) {
                due("LENGTH at first", x.look(30 + j), is ? 1 : NONE - 99);
            }
            int before = 1;
            for (int length = -2; length <= 15; length++) {
                boolean can = is && length >= 1 && length <= 12;
                due("counter(" + j + ", " + length + ")", x.counter(j, length), can ? length : NONE);
                before = can ? length : before;
                due("SCANS behind " + length, x.look(4), before);
            }
            due("spare(" + j + ") is none: nothing is WISHED", x.spare(j), NONE);
            due("a STEP for " + j, x.step(0, j, 1), is);
        }
    }

    /** "all LENGTHS multiplied 512 at most": 512 can be, 525 can't (there is nothing between). */
    private static void scansAreAtMost512() {
        PathCycle x = new PathCycle();
        due("SCANS at first", x.look(4), 1);
        Tell.lengths(x, 8, 8, 8);
        due("8 by 8 by 8", x.look(4), 512);
        due("8 by 8 by 8 by 1", x.counter(3, 1), 512);
        due("8 by 8 by 8 by 2", x.counter(3, 2), NONE);
        due("8, told again", x.counter(1, 8), 512);
        due("9 by 8 by 8", x.counter(1, 9), NONE);
        due("LENGTH stays", x.look(31), 8);
        due("7 by 8 by 8", x.counter(1, 7), 448);
        Tell.lengths(x, 4, 4, 4, 8);
        due("4 by 4 by 4 by 8", x.look(4), 512);
        due("9 at the end", x.counter(3, 9), NONE);
        Tell.lengths(x, 5, 5, 7);
        due("5 by 5 by 7 by 2", x.counter(3, 2), 350);
        due("5 by 5 by 7 by 3", x.counter(3, 3), NONE);
        Tell.lengths(x, 12, 12, 3);
        due("12 by 12 by 3", x.look(4), 432);
        due("12 by 12 by 12", x.counter(2, 12), NONE);
        due("12 by 12 by 4", x.counter(2, 4), NONE);
    }

    /** "at SCAN s COUNTER j is at s by the LENGTHS of those below it (downwards), modulo its own." */
    private static void countersGoRound() {
        PathCycle x = new PathCycle();
        Tell.lengths(x, 3, 1, 2, 4);
        int[][] places = {{0, 0, 0}, {2, 0, 0}, {0, 1, 0}, {2, 1, 0}, {0, 0, 1}, {2, 1, 3}};
        int[] scans = {0, 2, 3, 5, 6, 23};
        for (int i = 0; i < scans.length; i++) {
            Tell.steps(x, 1, 0, 0, 0, 0, 0, 1, 0, 0, 0, 0, 1);
            due("COUNTER 0 at " + scans[i], x.phase(0, scans[i]), places[i][0]);
            due("COUNTER 2 at " + scans[i], x.phase(1, scans[i]), places[i][1]);
            due("COUNTER 3 at " + scans[i], x.phase(2, scans[i]), places[i][2]);
        }
        x.step(0, 1, 23);
        due("COUNTER 1 of LENGTH 1 rests", x.phase(0, 23), 2);
        due("no SCAN 24", x.phase(0, 24), NONE);
    }

    /** "a ROW of UNITS (1 to 24 numbers; at first 0 alone)"; "at place s modulo how many it has". */
    private static void rowsGoRound() {
        PathCycle x = new PathCycle();
        for (int k = 0; k < 4; k++) {
            due("a ROW at first", x.look(40 + k), 1);
            due("0 alone", x.phase(k, 0), 0);
        }
        Tell.lengths(x, 12, 12, 3);
        dueRows(x, "p1=5;p2=1 2 3;p3=1 2 3 4 5 6 7 8 9 10 11 12 13 14 15 16 17 18 19 20 21 22 23 0;", 3);
        due("one number", x.look(40), 1);
        due("24 numbers", x.look(42), 24);
        due("one number at the last SCAN", x.phase(0, 431), 5);
        due("the last of three", x.phase(1, 2), 3);
        due("the first of three again", x.phase(1, 3), 1);
        due("the last of three at the last SCAN", x.phase(1, 431), 3);
        due("the last but one of 24", x.phase(2, 22), 23);
        due("the last of 24", x.phase(2, 23), 0);
        due("the first of 24 again", x.phase(2, 24), 1);
        due("a ROW may be longer than SCANS", x.counter(0, 1) + x.phase(2, 35), 36 + 12);
    }

    /** "the number of the ROW, and of each COUNTER its place times the STEP, together modulo T." */
    private static void phasesAreModuloT() {
        PathCycle x = new PathCycle();
        x.turn(48);
        Tell.lengths(x, 12, 12, 3);
        dueRows(x, "p1=47;p2=46;p3=0;", 3);
        Tell.steps(x, 1, 0, 0, 0, 1, 0, 0, 0, 47, 47, 47, 47);
        due("47 and 0", x.phase(0, 0), 47);
        due("47 and 1 is 48: 0", x.phase(0, 1), 0);
        due("46 and 1", x.phase(1, 1), 47);
        due("46 and 2", x.phase(1, 2), 0);
        due("the greatest places: -11 -11 -2", x.phase(2, 431), 24);
        x.turn(2);
        x.counter(0, 2);
        x.step(0, 0, 1);
        dueRows(x, "p1=1;", 1);
        due("T 2: 1", x.phase(0, 0), 1);
        due("T 2: 1 and 1", x.phase(0, 1), 0);
    }

    /** "a STEP for each COUNTER (0 .. T less 1; 0 at first)". */
    private static void stepsAreBelowT() {
        int[] turns = {2, 3, 24, 47, 48};
        for (int t : turns) {
            PathCycle x = new PathCycle();
            x.turn(t);
            x.counter(0, 2);
            for (int k = 0; k < 4; k++) {
                x.follow(false);
                due("STEP at first", x.phase(k, 1), 0);
                due("T " + t + ": step -1", x.step(k, 0, -1), false);
                due("T " + t + ": step T", x.step(k, 0, t), false);
                due("T " + t + ": STEP stays", x.phase(k, 1), 0);
                due("T " + t + ": step T less 1", x.step(k, 0, t - 1), true);
                due("T " + t + ": PHASE", x.phase(k, 1), t - 1);
                due("T " + t + ": step 0", x.step(k, 0, 0), true);
                due("T " + t + ": PHASE 0", x.phase(k, 1), 0);
            }
        }
    }

    /** "T told: THE CYCLE is as at first (the RECEIVER FOLLOWS as it did)." T may be what it was. */
    private static void toldTheCycleIsAsAtFirst() {
        for (int follows = 0; follows < 2; follows++) {
            boolean is = follows == 1;
            String change = Whole.difference(Whole.of(() -> {
                PathCycle x = told(is);
                x.turn(12);
                return x;
            }), Whole.of(() -> {
                PathCycle x = told(true);
                x.follow(is);
                Tell.lengths(x, 1, 1, 1, 1);
                Tell.steps(x, 0, 0, 0, 0, 0, 0, 0, 0, 0, 0, 0, 0, 0, 0, 0, 0);
                x.rows();
                return x;
            }));
            due("T told, FOLLOWS " + is + ": " + change, change == null, true);
        }
    }

    /** "its PHASE is, instead, CHANGES of CHIEF times PHASES of PULSES, together modulo T (without CHIEF 0)." */
    private static void receiverFollowsChief() {
        PathCycle x = new PathCycle();
        x.turn(48);
        x.pulses(3, 3);
        Tell.lengths(x, 2);
        Tell.steps(x, 47, 0, 0, 0, 47, 0, 0, 0, 47, 0, 0, 0, 5);
        Tell.rows(x, "r=7;");
        due("FOLLOWS at first", x.look(11), 1);
        due("without CHIEF: its ROW does nothing", x.phase(3, 0), 0);
        due("without CHIEF: its STEP does nothing", x.phase(3, 1), 0);
        x.wish(x.find(-3, 3, 0, 0), true);
        due("CHIEF at rest", x.phase(3, 0), 0);
        due("CHANGES -3, 6, -4 times 47", x.phase(3, 1), 1);
        Tell.rows(x, "p1=1;p2=47;p3=5;");
        due("-3 and 6 times 47 and -4 times 5: 259", x.phase(3, 0), 19);
        Tell.rows(x, "p3=12;");
        due("-4 times 12: 0", x.phase(3, 0), 0);
        x.follow(false);
        due("its own STEP", x.phase(3, 1), 5);
    }

    /** "THE TAPE (400 bytes at most)". */
    private static void tapeHas400BytesAtMost() {
        PathCycle x = new PathCycle();
        for (int i = 1; i <= 19; i++) {
            x.feed(0x20202020, 0x20202020, 0x20202020, 0x20202020, 0x20202020);
        }
        due("380 bytes", x.look(12), 380);
        due("400 bytes", x.feed(0x20202020, 0x20202020, 0x20202020, 0x20202020, 0x20202020), 400);
        due("420 bytes", x.feed(0x20202020, 0x20202020, 0x20202020, 0x20202020, 0x20202020), NONE);
        due("401 bytes", x.end(399) && x.feed(0, 0, 0, 0, 0) == NONE, true);
        due("they are 399", x.look(12), 399);
        due("399 blanks", x.rows(), 0);
        dueRows(x, "p1=" + "0".repeat(395) + "7;", 1);
        due("400 bytes are read to the last", x.phase(0, 0), 7);
        dueFault(x, "p1=" + "0".repeat(395) + "77", 2, 3);
        dueFault(x, "p1=" + "0".repeat(397), 1, 400);
        dueFault(x, "p1=7;" + " ".repeat(394) + "p", 1, 399);
    }

    /** "name: p and a digit 1 .. n (PULSE that less 1), or r". */
    private static void namesArePulsesAndReceiver() {
        for (int n = 1; n <= 5; n++) {
            PathCycle x = new PathCycle();
            x.pulses(n, 1);
            for (int digit = 0; digit <= 9; digit++) {
                if (digit >= 1 && digit <= n) {
                    dueRows(x, "p" + digit + "=9;", 1);
                    due("n " + n + ": p" + digit, x.phase(digit - 1, 0), 9);
                } else {
                    dueFault(x, "p" + digit + "=9;", 1, 0);
                }
            }
            dueFault(x, "p/=9;", 1, 0);
            dueFault(x, "p:=9;", 1, 0);
            dueRows(x, "r=8;", 1);
            x.follow(false);
            due("n " + n + ": r", x.phase(n, 0), 8);
            dueFault(x, "s=8;", 1, 0);
            dueFault(x, "q=8;", 1, 0);
            dueFault(x, "o1=8;", 1, 0);
            dueFault(x, "R=8;", 1, 0);
            dueFault(x, "P1=8;", 1, 0);
            dueFault(x, "=8;", 1, 0);
            dueFault(x, ";", 1, 0);
            dueFault(x, "1=8;", 1, 0);
        }
    }

    /** "N: digits: 0 .. T less 1". */
    private static void numbersAreBelowT() {
        int[] turns = {2, 3, 9, 10, 11, 24, 47, 48};
        for (int t : turns) {
            PathCycle x = new PathCycle();
            x.turn(t);
            dueRows(x, "p1=0;", 1);
            due("0", x.phase(0, 0), 0);
            dueRows(x, "p1=" + (t - 1) + ";", 1);
            due("T less 1", x.phase(0, 0), t - 1);
            dueFault(x, "p1=" + t + ";", 2, 3);
            dueFault(x, "p1=" + (t + 1) + ";", 2, 3);
            dueFault(x, "p1=0 " + t + ";", 2, 5);
            dueFault(x, "p1=" + t + "0;", 2, 3);
            due("ROW stays", x.phase(0, 0), t - 1);
        }
        PathCycle x = new PathCycle();
        dueFault(x, "p1=2147483648;", 2, 3);
        dueFault(x, "p1=4294967296;", 2, 3);
        dueFault(x, "p1=4294967300;", 2, 3);
        dueFault(x, "p1=18446744073709551616;", 2, 3);
        dueFault(x, "p1=" + "9".repeat(390) + ";", 2, 3);
        dueFault(x, "p1=/;", 1, 3);
        dueFault(x, "p1=:;", 1, 3);
    }

    /** "N { N }": one at least; "24 at most"; "a 25th number at it". */
    private static void numbersAre24AtMost() {
        PathCycle x = new PathCycle();
        dueFault(x, "p1=;", 1, 3);
        dueFault(x, "p1= ;", 1, 4);
        dueFault(x, "p1=", 1, 3);
        dueRows(x, "p1=1;", 1);
        due("one", x.look(40), 1);
        dueRows(x, "p1=" + "2 ".repeat(22) + "3;", 1);
        due("23", x.look(40), 23);
        dueRows(x, "p1=" + "2 ".repeat(23) + "3;", 1);
        due("24", x.look(40), 24);
        dueRows(x, "p1=" + "2 ".repeat(24) + ";", 1);
        due("24 and a blank", x.look(40), 24);
        dueFault(x, "p1=" + "2 ".repeat(24) + "3;", 1, 51);
        dueFault(x, "p1=" + "2 ".repeat(24) + "  3;", 1, 53);
        dueFault(x, "p1=" + "2 ".repeat(24) + "x", 1, 51);
        dueFault(x, "p1=" + "2 ".repeat(24), 1, 51);
        due("24 stay", x.look(40), 24);
        dueRows(x, "p1=" + "2 ".repeat(23) + "3;p2=" + "4 ".repeat(23) + "5;r=" + "6 ".repeat(24) + ";", 3);
        due("24 of each", x.look(40) + x.look(41) + x.look(43), 72);
    }

    /** "digits, as many as stand there". */
    private static void digitsAreAsManyAsStandThere() {
        PathCycle x = new PathCycle();
        dueRows(x, "p1=0000;", 1);
        due("many 0 are one number", x.look(40), 1);
        dueRows(x, "p1=00000000023 1;", 1);
        due("ahead of 23 many 0", x.phase(0, 0), 23);
        due("two numbers", x.look(40), 2);
        dueFault(x, "p1=00000000024;", 2, 3);
        dueRows(x, "p1=1 2;", 1);
        due("a blank between", x.look(40), 2);
        dueRows(x, "p1=12;", 1);
        due("none between", x.look(40), 1);
        dueFault(x, "p1=111;", 2, 3);
    }

    /** "Blanks (32) may stand ahead of all these (not in a name) and at the end." */
    private static void blanksStandAheadAndAtTheEnd() {
        PathCycle x = new PathCycle();
        dueRows(x, "   p1   =   1   2   ;   r   =   3   ;   ", 2);
        due("ROW of two", x.look(40), 2);
        dueRows(x, "p1=1 2;r=3;", 2);
        due("without blanks but one", x.look(40), 2);
        dueFault(x, "p 1=1;", 1, 0);
        dueFault(x, "  p 1=1;", 1, 2);
        dueFault(x, "p1\t=1;", 1, 2);
        dueFault(x, "p1=\n1;", 1, 3);
        dueFault(x, "\u001fp1=1;", 1, 0);
        dueFault(x, "!p1=1;", 1, 0);
        dueFault(x, "p1=1;\u00a0", 1, 5);
        dueRows(x, "", 0);
        dueRows(x, " ", 0);
        dueRows(x, " ".repeat(400), 0);
    }

    /** "ROWS that are not told become 0 alone." */
    private static void rowsNotToldAreNothingAlone() {
        PathCycle x = new PathCycle();
        x.follow(false);
        Tell.lengths(x, 3);
        Tell.steps(x, 1, 0, 0, 0, 0, 0, 0, 0, 0, 0, 0, 0, 2);
        dueRows(x, "p1=5 6;p2=7;p3=8;r=9 9;", 4);
        dueRows(x, "p2=7 7 7;", 1);
        int[] sizes = {1, 3, 1, 1};
        int[] phases = {1, 7, 0, 2};
        for (int row = 0; row < 4; row++) {
            due("numbers of ROW " + row, x.look(40 + row), sizes[row]);
            due("PHASE of ROW " + row + ": its STEP stays", x.phase(row, 1), phases[row]);
        }
        dueRows(x, "", 0);
        due("none told", x.look(41), 1);
        due("0 alone", x.phase(1, 0), 0);
    }

    /** "FAULTS, the first by its place (from 0; the end: THE TAPE's length)". */
    private static void faultsAreTheFirstByPlace() {
        PathCycle x = new PathCycle();
        dueFault(x, "p", 1, 0);
        dueFault(x, "p1", 1, 2);
        dueFault(x, "r", 1, 1);
        dueFault(x, "p1=", 1, 3);
        dueFault(x, "p1=5", 1, 4);
        dueFault(x, "p1=5 ", 1, 5);
        dueFault(x, "p1=24", 2, 3);
        dueFault(x, "p1=24;p9", 2, 3);
        dueFault(x, "p9=24;", 1, 0);
        dueFault(x, "p1=1;p1", 3, 5);
        dueFault(x, "p1=1; p1=24;", 3, 6);
        dueFault(x, "p1=1;p1 1", 3, 5);
        dueFault(x, "p1=1;p2=1;r=1;r", 3, 14);
        dueFault(x, "p1=1;p2=99;p1=1;", 2, 8);
        dueFault(x, "p1=1;p2=x;p1=1;", 1, 8);
        dueFault(x, "p1=0 0 24 x", 2, 7);
        dueFault(x, "p1=0 x 24", 1, 5);
        dueFault(x, "p1=24x;", 2, 3);
        dueFault(x, "p1=2x;", 1, 4);
        dueFault(x, "p1 1=2;", 1, 3);
        dueFault(x, "p1=1=2;", 1, 4);
        dueFault(x, "p1=1r=2;", 1, 4);
        dueFault(x, "\u0080", 1, 0);
        dueFault(x, "p1=\u00ff;", 1, 3);
    }

    // Terms 3

    /** "RESIDUE: its CHANGES times PHASES of PULSES, less that of the RECEIVER, together modulo T": 0 .. T less 1. */
    private static void residuesAreModuloT() {
        PathCycle x = new PathCycle();
        x.turn(48);
        x.pulses(5, 3);
        x.follow(false);
        Tell.rows(x, "p1=47;p2=47;p3=47;p4=47;p5=47;r=0;");
        int wide = x.find(-3, 3, -3, 3);
        due("-3, 6, -6, 6, -4 times 47", x.residue(wide, 0), 1);
        due("3, -6, 6, -6, 2 times 47", x.residue(x.find(3, -3, 3, -3), 0), 1);
        Tell.rows(x, "p1=47;r=47;");
        due("-3 times 47 less 47: -188", x.residue(wide, 0), 4);
        due("0 less 47", x.residue(x.find(0, 0, 0, 0), 0), 1);
        due("-1 times 47 less 47: -94", x.residue(x.find(-1, 0, 0, 0), 0), 2);
        due("1 times 47 less 47", x.residue(x.find(1, 0, 0, 0), 0), 0);
        Tell.rows(x, "p1=1;r=0;");
        due("-1", x.residue(x.find(-1, 0, 0, 0), 0), 47);
        Tell.rows(x, "p1=47;r=1;");
        due("47 less 1", x.residue(x.find(1, 0, 0, 0), 0), 46);
        Tell.rows(x, "p1=0;p2=0;r=1;");
        due("less 1", x.residue(wide, 0), 47);
    }

    /** "It VANISHES (0) if that is nothing, exactly". */
    private static void vanishesExactly() {
        PathCycle x = new PathCycle();
        x.turn(48);
        Tell.lengths(x, 11, 2, 2, 11);
        Tell.steps(x, 0, 0, 0, 0, 0, 0, 23, 13);
        Tell.rows(x, "p2=27 21 28 28 20 20 29 29 19 19 6 6 6 6 6 6 42 42 42 42 42 42;");
        int once = x.find(0, 1, 0, 0);
        due("484 turns are long by 1 of 20 millions", x.path(once, 0), 1);
        due("the first 22 are long by 1 of 100 thousands", x.early(once, 22), 1);
        due("until", x.until(once, 1), NONE);
        due("a LEAK", x.path(once, 3), 1);
        Tell.steps(x, 0, 0, 0, 0, 0, 0, 24, 13);
        due("by a half it is nothing", x.path(once, 0), 0);
        due("until the half is done", x.until(once, 1), 44);
        due("one ahead of it", x.early(once, 43), 1);
        due("one behind it", x.early(once, 45), 1);
    }

    /** Steps of one COUNTER are nothing together if they end where they began, and are not at rest: for each T. */
    private static void vanishesIfStepsCloseTheTurn() {
        for (int t = 2; t <= 48; t++) {
            for (int v = 0; v < t; v++) {
                PathCycle x = new PathCycle();
                x.turn(t);
                x.step(1, 0, v);
                for (int length = 1; length <= 12; length++) {
                    x.counter(0, length);
                    int state = v == 0 || length == 1 ? 2 : length * v % t == 0 ? 0 : 1;
                    due("T " + t + ": " + length + " steps of " + v, x.path(1, 0), state);
                }
            }
        }
    }

    /** T is a product of three primes: sums that are nothing although no part of them is. */
    private static void vanishesWithoutACommonStep() {
        PathCycle x = new PathCycle();
        int[] turns = {30, 42};
        String[] rows = {"p2=5 6 12 18 24 25;", "p2=6 7 12 18 24 30 35 36;"};
        String[] others = {"p2=5 6 12 18 24 26;", "p2=6 7 12 18 24 30 34 36;"};
        for (int i = 0; i < 2; i++) {
            x.turn(turns[i]);
            Tell.rows(x, rows[i]);
            x.counter(0, 6 + 2 * i);
            due("T " + turns[i] + ": all", x.path(1, 0), 0);
            due("T " + turns[i] + ": all but the last", x.early(1, 5 + 2 * i), 1);
            Tell.rows(x, others[i]);
            due("T " + turns[i] + ": one is another", x.path(1, 0), 1);
        }
    }

    /** "is WHOLE (2) if all RESIDUES are alike; else PARTLY (1) there". */
    private static void wholeIsAllAlike() {
        PathCycle x = new PathCycle();
        x.pulses(2, 1);
        int one = x.find(1, 0, 0, 0);
        due("one SCAN", x.path(one, 0), 2);
        Tell.rows(x, "p1=" + "7 ".repeat(23) + "8;");
        Tell.lengths(x, 12);
        due("alike at all SCANS", x.path(one, 0), 2);
        Tell.lengths(x, 12, 2);
        due("another one at the last SCAN", x.path(one, 0), 1);
        due("alike ahead of it", x.early(one, 23), 2);
        due("alike, but not 0", x.many(one, 7), 23);
        Tell.rows(x, "p1=8 " + "7 ".repeat(23) + ";");
        due("another one at the first SCAN", x.path(one, 0), 1);
        due("the first alone", x.early(one, 1), 2);
        due("CHANGE 0", x.path(x.find(0, 0, 0, 0), 0), 2);
    }

    /** "LEAKS: PATHS, neither WISHED nor FREE nor GONE, that do not VANISH." */
    private static void leaksAreNeitherWishedNorFreeNorGone() {
        PathCycle x = new PathCycle();
        due("all are", x.look(7), 9);
        due("none WISHED: LEAKS all the same", x.path(7, 3), 1);
        x.wish(7, true);
        due("WISHED", x.path(7, 3), 0);
        x.free(7, true);
        due("FREE", x.path(7, 3), 0);
        x.free(7, false);
        due("neither", x.path(7, 3), 1);
        x.gradient(2, 1);
        due("1 and -1: not SPOILED", x.gradient(0, 1) ? x.path(7, 3) : 9, 1);
        x.gradient(0, 2);
        due("SPOILED", x.path(7, 3), 0);
        x.gradient(0, 1);
        x.weight(0, 1, 0);
        due("WEIGHT 0", x.path(7, 3), 0);
        x.weight(0, 1, 1);
        x.counter(0, 2);
        x.step(0, 0, 12);
        due("VANISHES", x.path(7, 3), 0);
        x.step(0, 0, 11);
        due("PARTLY", x.path(7, 3), 1);
        x.pulses(5, 3);
        due("2401 LEAKS", x.look(7), 2401);
        Tell.freeEvery(x);
        due("no LEAKS", x.look(7), 0);
    }

    /** "LOST: WISHED ones that do, or are GONE." */
    private static void lostOnesVanishOrAreGone() {
        PathCycle x = new PathCycle();
        due("none WISHED", x.look(8), 0);
        x.wish(7, true);
        x.wish(0, true);
        due("WHOLE both", x.look(8), 0);
        x.counter(0, 2);
        x.step(2, 0, 12);
        due("CHIEF 0 stays, 7 VANISHES by -1 times a half", x.lost(NONE), 1);
        due("it is 7", x.lost(0), 7);
        x.step(2, 0, 11);
        due("PARTLY is not LOST", x.look(8), 0);
        x.gradient(1, 1);
        due("SPOILED", x.lost(0), 0);
        due("0 behind PULSE 1 is not", x.look(8), 1);
        x.weight(2, 1, 0);
        due("WEIGHT 0, too", x.look(8), 2);
        x.free(0, true);
        x.wish(7, false);
        due("FREE or neither", x.look(8), 0);
    }

    /** "THE CYCLE is GOOD if there are neither, and something is WISHED." */
    private static void goodNeedsSomethingWished() {
        PathCycle x = new PathCycle();
        x.pulses(2, 1);
        Tell.freeEvery(x);
        due("all FREE, nothing WISHED", x.look(9), 0);
        x.wish(1, true);
        due("one WISHED", x.look(9), 1);
        x.free(2, false);
        due("a LEAK", x.look(9), 0);
        x.weight(0, 1, 0);
        due("a GONE one", x.look(9), 1);
        x.weight(0, 0, 0);
        due("a LOST one", x.look(9), 0);
        x.weight(0, 0, 1);
        x.wish(1, false);
        due("nothing WISHED", x.look(9), 0);
        x.weight(1, 0, 0);
        x.weight(1, 1, 0);
        x.weight(1, 2, 0);
        due("all GONE, nothing WISHED", x.look(9), 0);
    }

    /** "STOPPED by a COUNTER: if all other COUNTERS had LENGTH 1 and all ROWS were 0 alone". */
    private static void stoppedByOneCounterAlone() {
        PathCycle x = new PathCycle();
        x.pulses(2, 1);
        Tell.lengths(x, 2, 3, 4, 6);
        Tell.steps(x, 12, 8, 6, 4);
        int one = x.find(1, 0, 0, 0);
        due("by all four", x.stopped(one), 15);
        due("by none: CHANGE 0", x.stopped(x.find(0, 0, 0, 0)), 0);
        Tell.lengths(x, 1, 3, 4, 6);
        due("not by LENGTH 1", x.stopped(one), 14);
        Tell.lengths(x, 3, 2, 5, 5);
        due("halves by 3, thirds by 2 ..", x.stopped(one), 0);
        Tell.lengths(x, 4, 6, 8, 1);
        due("twice round", x.stopped(one), 7);
        Tell.lengths(x, 2, 3, 4, 6);
        Tell.rows(x, "p1=1 2 3 4 5;");
        due("ROWS do nothing", x.stopped(one), 15);
        x.wish(one, true);
        due("CHIEF: never", x.stopped(one), 0);
        due("the others by all, then", x.stopped(x.find(0, 0, 0, 0)), 15);
        x.follow(false);
        Tell.rows(x, "r=1 13;");
        due("the RECEIVER's ROW does nothing", x.stopped(one), 15);
        Tell.steps(x, 12, 8, 6, 4, 0, 0, 0, 0, 12, 0, 6, 0);
        due("the RECEIVER does as it does", x.stopped(one), 10);
        due("the RECEIVER alone", x.stopped(x.find(0, 0, 0, 0)), 5);
    }

    /** "for each PULSE a number N that divides T (1 .. 12)". */
    private static void fewestDivideTAndAreTwelveAtMost() {
        for (int t = 2; t <= 48; t++) {
            PathCycle x = new PathCycle();
            x.turn(t);
            x.pulses(2, 1);
            x.wish(0, true);
            due("T " + t + ": CHANGES differ by 1 and 2", x.fewest(10), leastDivisor(t, 3));
            x.free(2, true);
            due("T " + t + ": CHANGES differ by 1", x.fewest(10), leastDivisor(t, 2));
            for (int n = 0; n <= 14; n++) {
                boolean can = n >= 1 && n <= 12 && t % n == 0;
                due("T " + t + ": would(1, " + n + ")", x.would(1, n, 1, 1, 1), can ? (n == 1 ? 1 : 0) : NONE);
            }
        }
    }

    /** The least that divides T, is that great at least, and 12 at most. */
    private static int leastDivisor(int t, int from) {
        for (int n = from; n <= 12; n++) {
            if (t % n == 0) {
                return n;
            }
        }
        return NONE;
    }

    /** "a PATH is left, if for each PULSE its CHANGE less CHIEF's is a multiple of N": of 0 .. 12, with both signs. */
    private static void fewestLeaveMultiples() {
        PathCycle x = new PathCycle();
        x.turn(12);
        x.pulses(3, 3);
        x.wish(x.find(3, -3, 0, 0), true);
        due("CHANGE 1 less -6 by twelfths: 12 is left", x.would(1, 12, 1, 1, 1), 1);
        due("all but CHIEF", x.would(1, 1, 1, 1, 1), 48);
        due("CHANGE 0 less 3 by sixths: 0 and -6 are left", x.would(6, 1, 1, 1, 1), 13);
        due("CHANGE 0 less 3 by thirds", x.would(3, 1, 1, 1, 1), 20);
        due("CHANGE 2 by sixths: 2 and -4 are left", x.would(1, 1, 6, 1, 1), 13);
        due("by all", x.would(6, 12, 6, 1, 1), 1);
        due("it is the one with CHANGES -3, 6, -4", x.free(x.find(-3, 3, 0, 0), true), true);
        due("none else", x.would(6, 12, 6, 1, 1), 0);
        x.wish(x.find(3, -3, 0, 0), false);
        x.wish(x.find(-3, 3, 0, 0), true);
        due("the other way: -12 is left", x.would(1, 12, 1, 1, 1), 1);
    }

    /** "the ones with the least product, of several those with the least N of PULSE 0, then 1 .." */
    private static void fewestOfSeveralTheLeastFirst() {
        PathCycle x = new PathCycle();
        x.turn(6);
        x.pulses(3, 3);
        Tell.freeEvery(x);
        x.wish(x.find(0, 0, 0, 0), true);
        due("nothing to stop", x.fewest(10), 1);
        dueFewest(x, 1, 1, 1);
        x.free(x.find(1, 0, 0, 0), false);
        dueFewest(x, 1, 2, 1);
        x.free(x.find(1, 1, 0, 0), false);
        dueFewest(x, 2, 1, 1);
        x.free(x.find(0, 1, 0, 0), false);
        dueFewest(x, 1, 2, 2);
        x.free(x.find(2, 0, 0, 0), false);
        dueFewest(x, 1, 3, 2);
    }

    private static void dueFewest(PathCycle x, int a, int b, int c) {
        due("N of PULSE 0", x.fewest(0), a);
        due("N of PULSE 1", x.fewest(1), b);
        due("N of PULSE 2", x.fewest(2), c);
        due("their product", x.fewest(10), a * b * c);
    }

    /** "All WISHED ones must be left and not GONE, all others but FREE and GONE ones not". */
    private static void fewestMustLeaveWishedAlone() {
        PathCycle x = new PathCycle();
        x.pulses(2, 3);
        due("without a WISHED one", x.fewest(10), NONE);
        for (int path = 0; path < 7; path++) {
            x.wish(path, true);
        }
        due("all WISHED: FEWEST", x.fewest(10), 1);
        due("all WISHED: COGS", x.cogs(10), 1);
        x.wish(6, false);
        due("one not: it differs by 6, another by 1", x.fewest(10), NONE);
        for (int path = 1; path < 6; path++) {
            x.wish(path, path % 2 == 0);
        }
        x.wish(6, true);
        due("each other one WISHED: FEWEST", x.fewest(10), 2);
        due("each other one WISHED: COGS", x.cogs(10), 2);
        x.free(1, true);
        x.free(3, true);
        due("one of the others is left", x.fewest(10), 2);
        x.free(5, true);
        due("all others FREE", x.fewest(10), 1);
        x.free(5, false);
        x.weight(0, 2, 0);
        due("the other one is GONE", x.fewest(10) + x.cogs(10), 2);
        x.weight(0, 2, 1);
        x.weight(0, 3, 0);
        due("WISHED ones are GONE", x.fewest(10), NONE);
        due("WISHED ones are GONE: COGS", x.cogs(10), NONE);
    }

    /** "All WISHED ones must be left": N divides what they differ by, all of them. */
    private static void fewestLeaveAllWished() {
        int[] fewest = {3, 4, 3, NONE};
        for (int set = 0; set < 4; set++) {
            PathCycle x = new PathCycle();
            x.pulses(2, 3);
            Tell.freeEvery(x);
            x.wish(0, true);
            x.wish(4, (set & 1) == 1);
            x.wish(6, (set & 2) == 2);
            x.free(2, false);
            int due = fewest[set];
            due("differing by 4, 6 of set " + set + ", not by 2: FEWEST", x.fewest(10), due);
            due("differing by 4, 6 of set " + set + ", not by 2: COGS", x.cogs(10), due);
            x.free(2, true);
            x.free(1, false);
            due("differing by 4, 6 of set " + set + ", not by 1: FEWEST", x.fewest(10), 2);
            due("differing by 4, 6 of set " + set + ", not by 1: COGS", x.cogs(10), 2);
        }
        PathCycle x = new PathCycle();
        x.pulses(2, 3);
        x.wish(6, true);
        x.wish(4, true);
        x.wish(2, true);
        due("the first PATH must not be left", x.fewest(10), NONE);
        due("the first PATH must not be left by COGS", x.cogs(10), NONE);
        x.free(0, true);
        due("the first PATH may be left", x.fewest(10), 2);
        due("the first PATH may be left by COGS", x.cogs(10), 2);
    }

    /** "one COUNTER of L steps (L divides T; 1 .. 12)". */
    private static void cogsDivideTAndAreTwelveAtMost() {
        for (int t = 2; t <= 48; t++) {
            PathCycle x = new PathCycle();
            x.turn(t);
            x.pulses(2, 1);
            x.wish(0, true);
            due("T " + t + ": CHANGES differ by 1 and 2", x.cogs(10), leastDivisor(t, 3));
            due("T " + t + ": W of PULSE 0", x.cogs(0), leastDivisor(t, 3) == NONE ? NONE : 0);
            due("T " + t + ": W of PULSE 1", x.cogs(1), leastDivisor(t, 3) == NONE ? NONE : 1);
            x.free(2, true);
            due("T " + t + ": CHANGES differ by 1", x.cogs(10), leastDivisor(t, 2));
        }
        PathCycle x = new PathCycle();
        x.turn(12);
        x.pulses(3, 3);
        Tell.freeEvery(x);
        x.wish(x.find(0, 0, 0, 0), true);
        x.free(x.find(3, 3, 0, 0), false);
        x.free(x.find(2, 2, 0, 0), false);
        due("3 and 2: by fourths", x.cogs(10), 4);
        due("3 and 2: W of PULSE 0", x.cogs(0), 0);
        due("3 and 2: W of PULSE 1", x.cogs(1), 0);
        due("3 and 2: W of PULSE 2", x.cogs(2), 1);
    }

    /** "The least L for which it can be as above; the least W of PULSE 0, then 1 .." */
    private static void cogsOfSeveralTheLeastFirst() {
        PathCycle x = new PathCycle();
        x.pulses(3, 1);
        x.wish(0, true);
        Tell.freeEvery(x);
        due("nothing to stop: L", x.cogs(10), 1);
        due("nothing to stop: W", x.cogs(0) + x.cogs(1) + x.cogs(2), 0);
        x.free(1, false);
        due("CHANGES 0, 1, -1: L", x.cogs(10), 2);
        due("CHANGES 0, 1, -1: W 1 of PULSE 2 alone", x.cogs(1) * 10 + x.cogs(2), 1);
        x.free(1, true);
        x.free(3, false);
        due("CHANGES 1, -1, 0: W 1 of PULSE 1", x.cogs(1) * 10 + x.cogs(2), 10);
        x.free(4, false);
        due("CHANGES 1, 0, -1, too: W 1 of both", x.cogs(1) * 10 + x.cogs(2), 11);
        due("still by halves", x.cogs(10), 2);
        x.free(1, false);
        due("and 0, 1, -1: by thirds", x.cogs(10), 3);
        due("W 1 and 2", x.cogs(1) * 10 + x.cogs(2), 12);
    }

    /** "(For 200 PATHS at most ..)": COGS and soonest(), but not FEWEST. 200 can be, the next is 225. */
    private static void cogsAndSoonestFor200PathsAtMost() {
        PathCycle x = new PathCycle();
        x.pulses(5, 2);
        x.kind(3, 2);
        x.kind(4, 2);
        due("200 PATHS", x.look(3), 200);
        x.wish(0, true);
        Tell.freeEvery(x);
        due("200 PATHS: COGS", x.cogs(10), 1);
        due("200 PATHS: lay(1)", x.lay(1), 1);
        due("200 PATHS: FEWEST", x.fewest(10), 1);
        due("200 PATHS: soonest()", x.soonest(), 1);
        x.pulses(5, 2);
        x.kind(0, 2);
        x.kind(1, 2);
        due("225 PATHS", x.look(3), 225);
        x.wish(0, true);
        Tell.freeEvery(x);
        due("225 PATHS: COGS", x.cogs(10), NONE);
        due("225 PATHS: lay(1)", x.lay(1), NONE);
        due("225 PATHS: L of COGS", x.share(3), NONE);
        due("225 PATHS: FEWEST", x.fewest(10), 1);
        due("225 PATHS: lay(0)", x.lay(0), 1);
        due("225 PATHS: soonest()", x.soonest(), NONE);
        due("225 PATHS: GOOD", x.look(9), 1);
        x.pulses(5, 3);
        x.wish(0, true);
        Tell.freeEvery(x);
        due("2401 PATHS: FEWEST", x.fewest(10), 1);
        due("2401 PATHS: COGS", x.cogs(10), NONE);
    }

    /** "POWER of a PATH (T 2, 3, 4, 6): the square of how long its SUM is (a whole number then)." */
    private static void powerIsForFourTurns() {
        for (int t = 2; t <= 48; t++) {
            PathCycle x = new PathCycle();
            x.turn(t);
            x.pulses(2, 1);
            boolean has = t == 2 || t == 3 || t == 4 || t == 6;
            Tell.lengths(x, t == 6 ? 6 : t == 4 ? 4 : t == 3 ? 3 : 2);
            x.step(0, 0, 1);
            int one = x.find(1, 0, 0, 0);
            due("T " + t + ": once round", x.power(one), has ? 0 : NONE);
            due("T " + t + ": at rest", x.power(x.find(0, 0, 0, 0)), has ? x.look(4) * x.look(4) : NONE);
        }
        PathCycle x = new PathCycle();
        x.turn(6);
        Tell.lengths(x, 8, 8, 8);
        due("512 SCANS", x.power(8), 262144);
        Tell.lengths(x, 2);
        x.step(0, 0, 1);
        due("T 6: a sixth beside 0", x.power(x.find(1, 1, 0, 0)), 3);
        x.step(0, 0, 2);
        due("T 6: a third beside 0", x.power(x.find(1, 1, 0, 0)), 1);
        x.turn(4);
        Tell.lengths(x, 2);
        x.step(0, 0, 1);
        due("T 4: a fourth beside 0", x.power(x.find(1, 1, 0, 0)), 2);
    }

    /** "THE IMAGE: all that is and was told but THE TAPE, fault(), as it was when it was taken". */
    private static void imageHoldsAllButTheTape() {
        for (int times = 1; times <= 3; times++) {
            int back = times;
            String change = Whole.difference(Whole.of(() -> {
                PathCycle x = told(false);
                x.image(true);
                for (int i = 0; i < back; i++) {
                    tellOtherwise(x);
                    due("gone back to it may be more than once", x.image(false), true);
                }
                x.end(5);
                return x;
            }), Whole.of(() -> {
                PathCycle x = told(false);
                x.image(true);
                Tell.rows(x, "p1=!");
                Tell.tape(x, "p3=1;");
                return x;
            }));
            due("gone back " + times + " times: " + change, change == null, true);
        }
    }

    /** Leaves p3=1; on THE TAPE, if that is empty, and a FAULT at 3. */
    private static void tellOtherwise(PathCycle x) {
        x.end(0);
        x.pulses(5, 2);
        x.turn(30);
        x.kind(4, 1);
        x.gradient(3, 3);
        x.weight(3, 3, 3);
        x.wish(9, true);
        x.free(2, true);
        x.follow(true);
        x.counter(0, 12);
        x.step(5, 1, 29);
        Tell.rows(x, "p5=29 29;r=28 1;");
        Tell.rows(x, "p4=!");
        Tell.tape(x, "p3=1;");
    }
}
