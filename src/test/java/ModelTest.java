import java.util.Random;

/** Long runs of calls, drawn with fixed seeds, on PathCycle and on Model: the answers must be the same. */
public final class ModelTest {
    private static final int NONE = -1;
    private static final int CALLS = 512;
    private final Random random;
    private final PathCycle it = new PathCycle();
    private final Model model = new Model();
    private final int mostPulses;
    private final int mostOrder;
    private final int mostScans;
    private final StringBuilder calls = new StringBuilder();
    private boolean same = true;

    private ModelTest(long seed, int mostPulses, int mostOrder, int mostScans) {
        random = new Random(seed);
        this.mostPulses = mostPulses;
        this.mostOrder = mostOrder;
        this.mostScans = mostScans;
    }

    public static void main(String[] args) {
        int runs = args.length > 0 ? Integer.parseInt(args[0]) : 240;
        int from = args.length > 1 ? Integer.parseInt(args[1]) : 0;
        boolean right = true;
        for (int run = from; run < from + runs; run++) {
            ModelTest test = run % 12 == 11 ? new ModelTest(run, 5, run % 24 == 23 ? 2 : 1, 6)
                    : run % 4 == 3 ? new ModelTest(run, 4, 2, 12)
                    : new ModelTest(run, 3, run % 4 == 2 ? 3 : 2, run % 4 == 1 ? 512 : 48);
            right &= test.run(run);
        }
        for (int seed = 1; seed <= 6; seed++) {
            right &= new ModelTest(seed, 5, 3, 512).big(seed);
        }
        for (int seed = 1; seed <= 60; seed++) {
            right &= new ModelTest(seed, 3 + seed % 3, 3, 512).searches(seed);
        }
        System.out.println("ModelTest: " + runs + " runs of " + CALLS + " calls" + (right ? " are alike" : " differ"));
        if (!right) {
            System.exit(1);
        }
    }

    private boolean run(int number) {
        check("pulses", it.pulses(mostPulses, 1), model.pulses(mostPulses, 1));
        for (int i = 1; i < CALLS && same; i++) {
            if (random.nextInt(100) < 45) {
                tell();
            } else if (random.nextInt(100) < 60) {
                ask();
            } else {
                askMore();
            }
        }
        if (!same) {
            System.out.println("run " + number + ":" + calls);
        }
        return same;
    }

    /** The greatest sizes, where the model takes its time. */
    private boolean big(int seed) {
        int m = 1 + seed % 3;
        int t = new int[] {24, 12, 48, 36, 30, 42}[seed % 6];
        check("pulses", it.pulses(5, m), model.pulses(5, m), 5, m);
        check("turn", it.turn(t), model.turn(t), t);
        for (int i = 0; i < 3; i++) {
            int path = random.nextInt(model.look(3));
            check("wish", it.wish(path, true), model.wish(path, true), path);
        }
        for (int i = 0; i < model.look(3); i++) {
            boolean is = i % 7 < seed;
            check("free", it.free(i, is), model.free(i, is), i, is ? 1 : 0);
        }
        int[] lengths = {seed == 1 ? 8 : 2, 4, 2, seed == 1 ? 8 : seed};
        for (int j = 0; j < 4; j++) {
            check("counter", it.counter(j, lengths[j]), model.counter(j, lengths[j]), j, lengths[j]);
        }
        int chief = model.find(-1, 0, 1, 0);
        check("wish", it.wish(chief, true), model.wish(chief, true), chief);
        checkSearches();
        for (int i = 0; i < 12; i++) {
            int v = random.nextInt(t);
            check("step", it.step(i % 6, i % 4, v), model.step(i % 6, i % 4, v), i % 6, i % 4, v);
        }
        tell();
        check("leak", it.leak(NONE), model.leak(NONE), NONE);
        check("share", it.share(1), model.share(1), 1);
        check("worst", it.worst(20, 0), model.worst(20, 0), 20, 0);
        check("lay", it.lay(0), model.lay(0), 0);
        check("look", it.look(9), model.look(9), 9);
        for (int j = 0; j < 4; j++) {
            check("spare", it.spare(j), model.spare(j), j);
        }
        if (!same) {
            System.out.println("big " + seed + ":" + calls);
        }
        return same;
    }

    /** WISHED and FREE so that some numbers do: those that a few steps leave, and not all of the others. */
    private boolean searches(int seed) {
        int n = mostPulses;
        int m = n == 5 ? 1 + seed / 3 % 2 : 1 + seed / 3 % 3;
        int t = new int[] {24, 12, 48, 36, 30, 42}[seed / 9 % 6];
        check("pulses", it.pulses(n, m), model.pulses(n, m), n, m);
        check("turn", it.turn(t), model.turn(t), t);
        if (n == 5 && m == 2) {
            for (int k = 2; k < 5; k++) {
                check("kind", it.kind(k, 2), model.kind(k, 2), k, 2);
            }
        }
        int[] steps = new int[5];
        for (int k = 0; k < 5; k++) {
            steps[k] = 1 + random.nextInt(4);
            steps[k] = t % steps[k] == 0 ? steps[k] : 1;
        }
        int chief = random.nextInt(model.look(3));
        int many = random.nextInt(100);
        for (int path = 0; path < model.look(3); path++) {
            boolean left = isLeft(path, chief, steps);
            boolean wished = path == chief || left && random.nextInt(3) > 0;
            if (wished) {
                check("wish", it.wish(path, true), model.wish(path, true), path, 1);
            } else if (left || random.nextInt(100) < many) {
                check("free", it.free(path, true), model.free(path, true), path, 1);
            }
        }
        checkSearches();
        check("gradient", it.gradient(n - 2, 1), model.gradient(n - 2, 1), n - 2, 1);
        checkSearches();
        check("lay", it.lay(seed % 2), model.lay(seed % 2), seed % 2);
        if (!same) {
            System.out.println("searches " + seed + ":" + calls);
        }
        return same;
    }

    private boolean isLeft(int path, int chief, int[] steps) {
        boolean left = true;
        for (int k = 0; k < mostPulses; k++) {
            int ahead = k == 0 ? 0 : model.order(path, k - 1) - model.order(chief, k - 1);
            left &= (model.order(path, k) - model.order(chief, k) - ahead) % steps[k] == 0;
        }
        return left;
    }

    private void checkSearches() {
        int[] fewest = model.fewestAll();
        int[] cogs = model.cogsAll();
        for (int k = 0; k <= 5; k++) {
            int what = k < 5 ? k : 10;
            boolean asked = k == 5 || k < model.look(0);
            check("fewest", it.fewest(what), fewest == null || !asked ? NONE : fewest[k], what);
            check("cogs", it.cogs(what), cogs == null || !asked ? NONE : cogs[k], what);
        }
    }

    private void check(String call, long got, long want, int... args) {
        calls.append(' ').append(call).append(java.util.Arrays.toString(args)).append('=').append(got);
        if (got != want) {
            calls.append(", due is ").append(want);
            same = false;
        }
    }

    private void check(String call, boolean got, boolean want, int... args) {
        check(call, got ? 1 : 0, want ? 1 : 0, args);
    }

    /** Mostly from..to, now and then beside it or far off. */
    private int draw(int from, int to) {
        int kind = random.nextInt(60);
        if (kind == 0) {
            return from - 1;
        }
        if (kind == 1) {
            return to + 1;
        }
        if (kind == 2) {
            return random.nextBoolean() ? Integer.MAX_VALUE : Integer.MIN_VALUE;
        }
        return from + random.nextInt(Math.max(1, to - from + 1));
    }

    private int aPath() {
        return draw(0, model.look(3) - 1);
    }

    private int aPulse() {
        return draw(0, model.look(0) - 1);
    }

    private void tell() {
        int kind = random.nextInt(100);
        int a;
        int b;
        int c;
        if (kind < 2) {
            a = random.nextInt(3) > 0 ? mostPulses : draw(1, mostPulses);
            b = draw(1, mostOrder);
            if (a <= mostPulses && b <= mostOrder) {
                check("pulses", it.pulses(a, b), model.pulses(a, b), a, b);
            }
        } else if (kind < 5) {
            a = aPulse();
            b = random.nextBoolean() ? 0 : draw(0, 2);
            check("kind", it.kind(a, b), model.kind(a, b), a, b);
        } else if (kind < 8) {
            int[] some = {24, 12, 48, 6, 4, 3, 2, 30, 42, 36, 7, 25, 10};
            a = random.nextInt(3) > 0 ? some[random.nextInt(some.length)] : draw(2, 48);
            check("turn", it.turn(a), model.turn(a), a);
        } else if (kind < 24) {
            a = draw(0, 3);
            b = draw(1, 12);
            int length = a >= 0 && a < 4 ? model.look(30 + a) : 1;
            if (model.look(4) / length * (long) b <= mostScans || mostScans == 512) {
                check("counter", it.counter(a, b), model.counter(a, b), a, b);
            }
        } else if (kind < 44) {
            a = draw(0, model.look(0));
            b = draw(0, 3);
            int t = model.look(2);
            c = random.nextInt(3) == 0 ? draw(0, t - 1) : t / (1 + random.nextInt(Math.min(t, 12))) % t;
            check("step", it.step(a, b, c), model.step(a, b, c), a, b, c);
        } else if (kind < 48) {
            a = aPulse();
            b = random.nextInt(3) > 0 ? 0 : draw(-9, 9);
            check("gradient", it.gradient(a, b), model.gradient(a, b), a, b);
        } else if (kind < 53) {
            a = aPulse();
            b = draw(0, 6);
            c = draw(0, 9);
            check("weight", it.weight(a, b, c), model.weight(a, b, c), a, b, c);
        } else if (kind < 56) {
            a = draw(0, 3);
            b = draw(0, 3);
            check("swap", it.swap(a, b), model.swap(a, b), a, b);
        } else if (kind < 59) {
            boolean is = random.nextInt(3) > 0;
            check("follow", it.follow(is), model.follow(is), is ? 1 : 0);
        } else {
            tellMarks(kind);
        }
    }

    private void tellMarks(int kind) {
        boolean is = random.nextInt(5) > 1;
        int a = aPath();
        if (kind < 67) {
            check("wish", it.wish(a, is), model.wish(a, is), a, is ? 1 : 0);
        } else if (kind < 77) {
            check("free", it.free(a, is), model.free(a, is), a, is ? 1 : 0);
        } else if (kind < 82) {
            a = aPulse();
            int b = draw(-model.look(1), model.look(1));
            check("freeAll", it.freeAll(a, b), model.freeAll(a, b), a, b);
        } else if (kind < 85) {
            is = random.nextInt(3) == 0;
            check("image", it.image(is), model.image(is), is ? 1 : 0);
        } else if (kind < 93) {
            a = draw(0, 1);
            check("lay", it.lay(a), model.lay(a), a);
        } else {
            feedText();
        }
    }

    /** A text that is often right, and else but a little wrong. */
    private void feedText() {
        StringBuilder text = new StringBuilder();
        int rows = random.nextInt(4);
        for (int i = 0; i < rows; i++) {
            text.append(random.nextInt(4) == 0 ? " " : "");
            text.append(random.nextInt(4) == 0 ? "r" : "p" + (1 + random.nextInt(model.look(0))));
            text.append(random.nextInt(4) == 0 ? "  = " : "=");
            int numbers = random.nextInt(9) == 0 ? 23 + random.nextInt(3) : 1 + random.nextInt(4);
            for (int k = 0; k < numbers; k++) {
                text.append(k > 0 ? " " : "").append(random.nextInt(8) == 0 ? "0" : "");
                text.append(random.nextInt(model.look(2) + (random.nextInt(9) == 0 ? 2 : 0)));
            }
            text.append(random.nextInt(4) == 0 ? " ;" : ";");
        }
        if (random.nextInt(3) == 0 && text.length() > 0) {
            int at = random.nextInt(text.length());
            String signs = "pr12;= 079x\u00e9";
            text.setCharAt(at, signs.charAt(random.nextInt(signs.length())));
        }
        int have = model.look(12);
        int want = have + text.length();
        for (int i = 0; i < text.length(); i += 20) {
            int[] five = new int[5];
            for (int k = 0; k < 20; k++) {
                five[k / 4] = five[k / 4] << 8 | (i + k < text.length() ? text.charAt(i + k) : 0);
            }
            check("feed", it.feed(five[0], five[1], five[2], five[3], five[4]), model.feed(five), five);
        }
        if (random.nextInt(20) == 0) {
            want = draw(0, 400);
        }
        check("end", it.end(want), model.end(want), want);
        if (random.nextInt(5) > 0) {
            check("rows", it.rows(), model.rows());
            check("fault", it.fault(0), model.fault(0), 0);
            check("fault", it.fault(1), model.fault(1), 1);
            check("fault", it.fault(2), model.fault(2), 2);
        }
    }

    private void ask() {
        int what = draw(0, 14);
        int a = aPath();
        int b;
        switch (random.nextInt(10)) {
            case 0:
                b = aPulse();
                check("order", it.order(a, b), model.order(a, b), a, b);
                break;
            case 1:
                int m = model.look(1);
                int[] four = {draw(-m, m), draw(-m, m), draw(-m, m), draw(-m, m)};
                check("find", it.find(four[0], four[1], four[2], four[3]), model.find(four), four);
                break;
            case 2:
                a = draw(0, model.look(0));
                b = draw(0, model.look(4) - 1);
                check("phase", it.phase(a, b), model.phase(a, b), a, b);
                break;
            case 3:
                b = draw(0, model.look(4) - 1);
                check("residue", it.residue(a, b), model.residue(a, b), a, b);
                break;
            case 4:
                b = draw(0, model.look(2) - 1);
                check("many", it.many(a, b), model.many(a, b), a, b);
                break;
            case 5: case 6:
                b = draw(0, 8);
                check("path", it.path(a, b), model.path(a, b), a, b);
                break;
            default:
                if (random.nextInt(3) == 0) {
                    what = draw(20, 59);
                }
                check("look", it.look(what), model.look(what), what);
                break;
        }
    }

    private void askMore() {
        int a = aPath();
        int b;
        switch (random.nextInt(15)) {
            case 0: case 1:
                b = draw(-1, 12);
                check("leak", it.leak(b), model.leak(b), b);
                break;
            case 2:
                b = draw(-1, 3);
                check("lost", it.lost(b), model.lost(b), b);
                break;
            case 3:
                a = draw(0, 20);
                b = draw(0, 1);
                check("worst", it.worst(a, b), model.worst(a, b), a, b);
                break;
            case 4:
                check("stopped", it.stopped(a), model.stopped(a), a);
                break;
            case 5:
                b = draw(0, 3);
                check("spare", it.spare(b), model.spare(b), b);
                break;
            case 6:
                check("soonest", it.soonest(), model.soonest());
                break;
            case 7:
                b = draw(1, model.look(4));
                check("early", it.early(a, b), model.early(a, b), a, b);
                break;
            case 8:
                b = draw(1, Math.min(4, model.look(4)));
                check("until", it.until(a, b), model.until(a, b), a, b);
                break;
            case 9:
                b = random.nextBoolean() ? 10 : draw(0, 5);
                check("fewest", it.fewest(b), model.fewest(b), b);
                break;
            case 10:
                b = random.nextBoolean() ? 10 : draw(0, 5);
                check("cogs", it.cogs(b), model.cogs(b), b);
                break;
            case 11:
                check("power", it.power(a), model.power(a), a);
                break;
            case 12:
                int[] five = {draw(1, 4), draw(1, 4), draw(1, 4), draw(1, 12), draw(1, 2)};
                check("would", it.would(five[0], five[1], five[2], five[3], five[4]), model.would(five), five);
                break;
            case 13:
                b = draw(0, 4);
                check("share", it.share(b), model.share(b), b);
                break;
            default:
                b = draw(0, 4);
                check("part", it.part(b), model.part(b), b);
                break;
        }
    }
}
