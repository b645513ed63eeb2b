import java.util.function.IntConsumer;

// What the tests share: answers that are due, and calls that must be refused.
final class Due {
    private int asked = 0;
    private int wrong = 0;

    void is(String call, long got, long want) {
        asked++;
        if (got != want) {
            say(call + " answered " + got + ", due is " + want);
        }
    }

    void isShare(String call, double got, double want) {
        is(call + " as bits", Double.doubleToLongBits(got), Double.doubleToLongBits(want));
    }

    void holds(String what, boolean holds) {
        asked++;
        if (!holds) {
            say(what + " does not hold");
        }
    }

    /** The call must throw just this exception, and change nothing. */
    void refused(WatchPoses x, String call, Class<? extends RuntimeException> want, Runnable run) {
        asked++;
        long before = x.digest();
        Class<?> got = null;
        try {
            run.run();
        } catch (RuntimeException e) {
            got = e.getClass();
        }
        if (got != want) {
            say(call + " threw " + got + ", due is " + want);
        }
        if (x.digest() != before) {
            say(call + " threw and changed something");
        }
    }

    void refusedArgument(WatchPoses x, String call, Runnable run) {
        refused(x, call, IllegalArgumentException.class, run);
    }

    void refusedIndex(WatchPoses x, String call, Runnable run) {
        refused(x, call, IndexOutOfBoundsException.class, run);
    }

    void refusedState(WatchPoses x, String call, Runnable run) {
        refused(x, call, IllegalStateException.class, run);
    }

    /** The call must save just one state, and undo must bring back all that was there before it. */
    void undoable(WatchPoses x, String call, Runnable run) {
        asked++;
        int states = x.count(20);
        long before = x.digest();
        run.run();
        if (x.count(20) != Math.min(6, states + 1)) {
            say(call + " left " + x.count(20) + " saved states");
        }
        x.undo();
        if (states < 6 && x.digest() != before) {
            say(call + " was not undone wholly");
        }
    }

    static void type(WatchPoses x, String orders) {
        for (int i = 0; i < orders.length(); i++) {
            x.append(orders.charAt(i));
        }
    }

    /** Calls that must be refused each time with the same exception. */
    void allRefused(WatchPoses x, String call, Class<? extends RuntimeException> want, IntConsumer run, int... values) {
        for (int value : values) {
            refused(x, call + " with " + value, want, () -> run.accept(value));
        }
    }

    static WatchPoses wound(int hours) {
        WatchPoses x = new WatchPoses();
        x.wind(hours);
        return x;
    }

    /** Of this dirt, 0 to 100: it lies in pose 0, is wound, and went just 24 times so many hours; 2 * dirt + 1 calls. */
    static WatchPoses dirty(int dirt) {
        WatchPoses x = new WatchPoses();
        for (int day = 0; day < dirt; day++) {
            x.wind(48);
            x.pass(24);
        }
        x.wind(48);
        return x;
    }

    static void readAll(WatchPoses x) {
        for (int p = 0; p < 6; p++) {
            x.read(p);
        }
    }

    static void weighAll(WatchPoses x, int... weights) {
        for (int p = 0; p < 6; p++) {
            x.weigh(p, weights[p]);
        }
    }

    private void say(String text) {
        wrong++;
        System.out.println(text);
    }

    void end(String test) {
        System.out.println(test + ": " + asked + " asked, " + wrong + " wrong");
        if (wrong != 0) {
            System.exit(1);
        }
    }
}
