// Promises 10 to 12 and 21 to 23, and the term "Readings".
public final class ReadingTest {
    private static final Due DUE = new Due();

    // Promise 10
    private static void read() {
        WatchPoses x = new WatchPoses();
        DUE.refusedIndex(x, "read(6) without hours", () -> x.read(6));
        DUE.refusedIndex(x, "read(-1) without hours", () -> x.read(-1));
        DUE.refusedState(x, "read(0) without hours", () -> x.read(0));
        x.wind(20);
        DUE.is("read(2)", x.read(2), 10011);
        DUE.is("the watch is laid so", x.count(6), 2);
        DUE.is("readings on the paper", x.count(10), 1);
        DUE.is("readings so far", x.count(11), 1);
        DUE.undoable(x, "read(3)", () -> x.read(3));
        x.magnetise(41);
        DUE.refusedState(x, "read(5) with magnetism 41", () -> x.read(5));
        DUE.is("the pose stays", x.count(6), 2);
    }

    private static void reasonsAtTheirEdges() {
        WatchPoses x = new WatchPoses();
        x.magnetise(100);
        x.set(0, 10);
        DUE.is("reason 1 is ahead of 3 and 4", x.pose(2, 4), 1);
        x.wind(20);
        DUE.is("reason 3 is ahead of 4", x.pose(2, 4), 3);
        DUE.is("beat error at the setting", x.pose(0, 4), 4);
        x.set(0, 12);
        DUE.is("beat error at the setting in pose 2", x.pose(2, 4), 4);
        x.set(0, 11);
        DUE.is("beat error above the setting in pose 2", x.pose(2, 4), 3);
        x.set(1, 100);
        DUE.is("magnetism at the setting", x.pose(0, 4), 0);
        x.set(1, 99);
        DUE.is("magnetism above the setting", x.pose(0, 4), 4);
        DUE.refusedState(x, "read(0) for reason 4", () -> x.read(0));
        DUE.refusedState(x, "read(2) for reason 3", () -> x.read(2));
    }

    private static void paperIsFull() {
        WatchPoses x = new WatchPoses();
        x.wind(20);
        for (int i = 0; i < 39; i++) {
            x.read(i % 6);
        }
        DUE.is("reason with 39 readings", x.pose(1, 4), 0);
        DUE.is("reading 40", x.read(3), 9988);
        DUE.is("reason 5", x.pose(1, 4), 5);
        DUE.refusedState(x, "reading 41", () -> x.read(1));
        x.magnetise(41);
        DUE.is("reason 4 is ahead of 5", x.pose(1, 4), 4);
        x.demagnetise();
        DUE.is("readings in pose 3", x.pose(3, 7), 7);
        DUE.is("readings in pose 5", x.pose(5, 7), 6);
        DUE.is("the last reading's pose", x.reading(39, 1), 3);
        DUE.is("no reading 41", x.reading(40, 1), -1);
        DUE.is("renew()", x.renew(), 40);
        DUE.is("reading 1 on the new paper", x.read(1), 9997);
        DUE.is("readings so far", x.count(11), 41);
    }

    // Promise 11
    private static void renew() {
        WatchPoses x = new WatchPoses();
        DUE.is("renew() of an empty paper", x.renew(), 0);
        DUE.undoable(x, "renew() of an empty paper", x::renew);
        x.wind(20);
        Due.readAll(x);
        DUE.undoable(x, "renew()", x::renew);
        DUE.is("renew()", x.renew(), 6);
        DUE.is("readings on the paper", x.count(10), 0);
        DUE.is("readings so far stay", x.count(11), 6);
        DUE.is("readings in pose 0", x.pose(0, 7), 0);
        DUE.is("latest hour in pose 0", x.pose(0, 5), -1);
        DUE.is("latest rate in pose 0", x.pose(0, 6), -1);
        DUE.is("reading(0, 0)", x.reading(0, 0), -1);
        DUE.is("reason 6", x.count(14), 6);
    }

    // Promise 12
    private static void set() {
        WatchPoses x = new WatchPoses();
        int[] first = {60, 40, 24, 60};
        int[] least = {10, 0, 1, 5};
        int[] most = {200, 100, 200, 900};
        for (int s = 0; s < 4; s++) {
            int setting = s;
            DUE.is("set to the least", x.set(s, least[s]), first[s]);
            DUE.is("set to the most", x.set(s, most[s]), least[s]);
            DUE.is("the setting", x.count(16 + s), most[s]);
            DUE.refusedArgument(x, "below the least", () -> x.set(setting, least[setting] - 1));
            DUE.refusedArgument(x, "above the most", () -> x.set(setting, most[setting] + 1));
            DUE.undoable(x, "set", () -> x.set(setting, 20));
        }
        DUE.refusedIndex(x, "set(4, 20)", () -> x.set(4, 20));
        DUE.refusedIndex(x, "set(-1, 20)", () -> x.set(-1, 20));
        DUE.refusedIndex(x, "set(4, -5)", () -> x.set(4, -5));
        DUE.refusedIndex(x, "set(MIN, 20)", () -> x.set(Integer.MIN_VALUE, 20));
    }

    // Promise 21
    private static void pose() {
        WatchPoses x = new WatchPoses();
        x.wind(20);
        x.read(4);
        x.pass(2);
        x.adjust(7, -9);
        x.read(4);
        x.pass(1);
        long[] due = {104, 207, 10013, 11, 0, 2, 10013, 2};
        for (int what = 0; what < due.length; what++) {
            DUE.is("pose(4, " + what + ")", x.pose(4, what), due[what]);
        }
        DUE.refusedIndex(x, "pose(6, 0)", () -> x.pose(6, 0));
        DUE.refusedIndex(x, "pose(-1, 8)", () -> x.pose(-1, 8));
        DUE.refusedArgument(x, "pose(0, 8)", () -> x.pose(0, 8));
        DUE.refusedArgument(x, "pose(5, -1)", () -> x.pose(5, -1));
    }

    // Promise 22
    private static void reading() {
        WatchPoses x = new WatchPoses();
        x.wind(20);
        x.read(0);
        x.pass(2);
        x.magnetise(3);
        x.read(5);
        long[][] due = {{0, 0, 10002, 10, 236}, {2, 5, 10000, 12, 210}};
        for (int r = 0; r < 2; r++) {
            for (int what = 0; what < 5; what++) {
                DUE.is("reading(" + r + ", " + what + ")", x.reading(r, what), due[r][what]);
            }
        }
        DUE.is("reading(2, 4)", x.reading(2, 4), -1);
        DUE.is("reading(MAX, 0)", x.reading(Integer.MAX_VALUE, 0), -1);
        DUE.refusedArgument(x, "reading(-1, 0)", () -> x.reading(-1, 0));
        DUE.refusedArgument(x, "reading(0, 5)", () -> x.reading(0, 5));
        DUE.refusedArgument(x, "reading(0, -1)", () -> x.reading(0, -1));
        DUE.refusedArgument(x, "reading(9, 5)", () -> x.reading(9, 5));
    }

    // Promise 23
    private static void count() {
        WatchPoses x = new WatchPoses();
        x.pass(2);
        x.wind(20);
        x.adjust(-5, 20);
        x.magnetise(1);
        // Three hours at -5 - 3 + 2 = -6, divided by 24, down: -1 each.
        x.read(1);
        x.pass(3);
        x.set(2, 77);
        long[] due = {5, 17, 95, 120, 1, 0, 1, 1, 999997, 2, 1, 1, -1, -1, 6, 3, 60, 40, 77, 60, 6};
        for (int what = 0; what < due.length; what++) {
            DUE.is("count(" + what + ")", x.count(what), due[what]);
        }
        DUE.refusedArgument(x, "count(21)", () -> x.count(21));
        DUE.refusedArgument(x, "count(-1)", () -> x.count(-1));
    }

    private static void dayRate(WatchPoses x, String when, int rate, int reason) {
        DUE.is(when + ": the day's rate", x.count(12), rate);
        DUE.is(when + ": the same by the paper", x.count(13), rate);
        DUE.is(when + ": why not", x.count(14), reason);
    }

    private static void dayRateAtItsEdges() {
        WatchPoses x = new WatchPoses();
        x.wind(20);
        for (int p = 0; p < 5; p++) {
            x.read(p);
        }
        dayRate(x, "without pose 5", -1, 6);
        x.read(5);
        // 2 - 3 + 11 - 12 + 5 - 6 = -3; divided by 6, down: -1
        dayRate(x, "with all poses", 9999, 0);
        x.set(3, 23);
        dayRate(x, "spread 23 of 23", 9999, 0);
        x.set(3, 22);
        dayRate(x, "spread 23 of 22", -1, 8);
        x.set(3, 60);
        x.set(2, 3);
        x.pass(3);
        dayRate(x, "3 hours old of 3", 9999, 0);
        x.pass(1);
        dayRate(x, "4 hours old of 3", -1, 7);
        for (int p = 5; p > 0; p--) {
            x.read(p);
        }
        dayRate(x, "with one old reading", -1, 7);
        x.set(3, 5);
        dayRate(x, "reason 7 is ahead of 8", -1, 7);
        x.read(0);
        dayRate(x, "reason 8 then", -1, 8);
    }

    private static void dayRateOfTheLatestReadings() {
        WatchPoses x = new WatchPoses();
        x.wind(20);
        x.adjust(50, 0);
        Due.readAll(x);
        x.adjust(0, 0);
        x.read(3);
        // 52, 47, 61, 55, 44 and now -12
        dayRate(x, "pose 3 without the regulator", -1, 8);
        x.set(3, 900);
        dayRate(x, "the wider spread", 10041, 0);
        Due.readAll(x);
        dayRate(x, "all poses anew", 9999, 0);
    }

    public static void main(String[] args) {
        read();
        reasonsAtTheirEdges();
        paperIsFull();
        renew();
        set();
        pose();
        reading();
        count();
        dayRateAtItsEdges();
        dayRateOfTheLatestReadings();
        DUE.end("ReadingTest");
    }
}
