import java.util.ArrayList;
import java.util.List;
import java.util.function.Supplier;
import java.util.function.ToLongFunction;

/**
 * All answers that an object can give, THE IMAGE's and THE TAPE's too. What is asked last changes the object, and 512
 * calls would not do, so each part asks an object of its own that was told the same.
 */
final class Whole {
    private final List<String> answers = new ArrayList<>();

    private Whole() {
    }

    static List<String> of(Supplier<PathCycle> told) {
        Whole all = new Whole();
        all.looks(told.get());
        all.searches(told.get());
        all.tape(told.get());
        all.marks(told.get(), "");
        all.paths(told);
        all.phases(told.get(), "");
        all.hiddenSteps(told.get());
        all.hiddenWeights(told.get());
        PathCycle back = told.get();
        all.say("image(false)", back.image(false) ? 1 : 0);
        all.looks(back);
        all.marks(back, "gone back: ");
        all.phases(back, "gone back: ");
        back = told.get();
        back.image(false);
        all.hiddenSteps(back);
        back = told.get();
        back.image(false);
        all.hiddenWeights(back);
        return all.answers;
    }

    /** Asks what may be kept once it was found out, so that what is told behind it must put it out of date. */
    static PathCycle asked(PathCycle x) {
        for (int what = 7; what <= 14; what++) {
            x.look(what);
        }
        x.fewest(10);
        x.cogs(10);
        x.soonest();
        x.residue(0, 0);
        return x;
    }

    /** The first answer that differs; null if none does. */
    static String difference(List<String> is, List<String> due) {
        for (int i = 0; i < is.size() || i < due.size(); i++) {
            String one = i < is.size() ? is.get(i) : "nothing";
            String other = i < due.size() ? due.get(i) : "nothing";
            if (!one.equals(other)) {
                return one + ", due is " + other;
            }
        }
        return null;
    }

    /** What a call does to what was told: nothing. */
    static String changeBy(Supplier<PathCycle> told, ToLongFunction<PathCycle> call) {
        Supplier<PathCycle> called = () -> {
            PathCycle x = told.get();
            call.applyAsLong(x);
            return x;
        };
        return difference(of(called), of(told));
    }

    private void say(String call, long answer) {
        answers.add(call + " = " + answer);
    }

    private void looks(PathCycle x) {
        for (int what = -1; what <= 60; what++) {
            say("look(" + what + ")", x.look(what));
        }
        for (int what = -1; what <= 2; what++) {
            say("fault(" + what + ")", x.fault(what));
        }
    }

    private void searches(PathCycle x) {
        for (int what = -1; what <= 10; what++) {
            say("fewest(" + what + ")", x.fewest(what));
            say("cogs(" + what + ")", x.cogs(what));
            say("share(" + what + ")", x.share(what));
            say("part(" + what + ")", x.part(what));
        }
        for (int counter = 0; counter < 4; counter++) {
            say("spare(" + counter + ")", x.spare(counter));
        }
        say("soonest()", x.soonest());
        say("would(2, 1, 2, 1, 2)", x.would(2, 1, 2, 1, 2));
        for (int i = -1; i < 50; i++) {
            say("leak(" + i + ")", x.leak(i));
            say("lost(" + i + ")", x.lost(i));
            say("worst(" + i + ", 0)", x.worst(i, 0));
            say("worst(" + i + ", 1)", x.worst(i, 1));
        }
    }

    private void tape(PathCycle x) {
        say("rows()", x.rows());
        say("fault(0) behind rows()", x.fault(0));
        say("fault(1) behind rows()", x.fault(1));
        phases(x, "behind rows(): ");
    }

    private void marks(PathCycle x, String when) {
        for (int path = 0; path < Math.min(50, x.look(3)); path++) {
            say(when + "WISHED " + path, x.path(path, 1));
            say(when + "FREE " + path, x.path(path, 2));
            say(when + "SPOILED " + path, x.path(path, 6));
            say(when + "WEIGHT " + path, x.path(path, 7));
        }
    }

    private void paths(Supplier<PathCycle> told) {
        int count = Math.min(50, told.get().look(3));
        for (int start = 0; start < count; start += 20) {
            PathCycle x = told.get();
            for (int path = start; path < Math.min(start + 20, count); path++) {
                for (int k = 0; k < 3; k++) {
                    say("order(" + path + ", " + k + ")", x.order(path, k));
                }
                for (int what = 0; what <= 8; what++) {
                    say("path(" + path + ", " + what + ")", x.path(path, what));
                }
                say("stopped(" + path + ")", x.stopped(path));
                say("until(" + path + ", 1)", x.until(path, 1));
                say("power(" + path + ")", x.power(path));
                say("residue(" + path + ")", x.residue(path, x.look(4) - 1));
            }
        }
    }

    private void phases(PathCycle x, String when) {
        int rows = x.look(0) + 1;
        for (int s = 0; s < Math.min(360 / rows, x.look(4)); s++) {
            for (int row = 0; row < rows; row++) {
                say(when + "phase(" + row + ", " + s + ")", x.phase(row, s));
            }
        }
    }

    /** STEPS for COUNTERS of LENGTH 1, and those of a RECEIVER that FOLLOWS. */
    private void hiddenSteps(PathCycle x) {
        Tell.lengths(x, 2, 2, 2, 2);
        x.follow(false);
        phases(x, "LENGTHS 2: ");
    }

    /** WEIGHTS for CHANGES that KINDS don't leave. */
    private void hiddenWeights(PathCycle x) {
        for (int k = 0; k < x.look(0); k++) {
            x.kind(k, 0);
        }
        for (int path = 0; path < Math.min(200, x.look(3)); path++) {
            say("KINDS any: WEIGHT " + path, x.path(path, 7));
            say("KINDS any: SPOILED " + path, x.path(path, 6));
        }
    }
}
