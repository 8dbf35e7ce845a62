/** Tells an object what takes more than one call. */
final class Tell {
    private Tell() {
    }

    /** Puts just this text behind THE TAPE: feeds twenty bytes at once and cuts off what is too much. */
    static boolean tape(PathCycle x, String text) {
        int size = x.look(12);
        for (int i = 0; i < text.length(); i += 20) {
            int[] five = new int[5];
            for (int k = 0; k < 20; k++) {
                five[k / 4] = five[k / 4] << 8 | (i + k < text.length() ? text.charAt(i + k) : 0);
            }
            x.feed(five[0], five[1], five[2], five[3], five[4]);
        }
        return x.end(size + text.length());
    }

    static int rows(PathCycle x, String text) {
        tape(x, text);
        return x.rows();
    }

    static void freeEvery(PathCycle x) {
        for (int order = -x.look(1); order <= x.look(1); order++) {
            x.freeAll(0, order);
        }
    }

    /** Steps of all PULSES for all COUNTERS, then those of the RECEIVER. */
    static void steps(PathCycle x, int... steps) {
        for (int i = 0; i < steps.length; i++) {
            x.step(i / 4, i % 4, steps[i]);
        }
    }

    static void lengths(PathCycle x, int... lengths) {
        for (int j = 0; j < 4; j++) {
            x.counter(j, 1);
        }
        for (int j = 0; j < lengths.length; j++) {
            x.counter(j, lengths[j]);
        }
    }
}
