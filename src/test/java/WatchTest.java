// Promises 1 to 9, and the terms "The watch" and "Time".
public final class WatchTest {
    private static final Due DUE = new Due();

    // Promise 1
    private static void newObject() {
        WatchPoses x = new WatchPoses();
        DUE.is("NONE", WatchPoses.NONE, -1);
        long[] counts = {0, 0, 100, 110, 0, 0, 0, 0, 1000000, 0, 0, 0, -1, -1, 6, 0, 60, 40, 24, 60, 0};
        for (int what = 0; what < counts.length; what++) {
            DUE.is("new: count(" + what + ")", x.count(what), counts[what]);
        }
        long[] weights = {102, 98, 108, 92, 104, 96};
        long[] rates = {10003, 9996, 10016, 9983, 10008, 9991};
        for (int p = 0; p < 6; p++) {
            DUE.is("new: weight of " + p, x.pose(p, 0), weights[p]);
            DUE.is("new: swing in " + p, x.pose(p, 1), p < 2 ? 176 : 156);
            DUE.is("new: rate in " + p, x.pose(p, 2), rates[p]);
            DUE.is("new: beat error in " + p, x.pose(p, 3), p < 2 ? 10 : 12);
            DUE.is("new: reason in " + p, x.pose(p, 4), 1);
            DUE.is("new: latest hour in " + p, x.pose(p, 5), -1);
            DUE.is("new: latest rate in " + p, x.pose(p, 6), -1);
            DUE.is("new: readings in " + p, x.pose(p, 7), 0);
            DUE.is("new: stopsIn(" + p + ")", x.stopsIn(p), 0);
        }
        DUE.is("new: clearBuffer()", x.clearBuffer(), 0);
        DUE.refusedState(x, "new: undo()", x::undo);
        DUE.refusedState(x, "new: restore()", x::restore);
    }

    // Promise 2
    private static void wind() {
        WatchPoses x = new WatchPoses();
        DUE.is("wind(1)", x.wind(1), 1);
        DUE.is("wind(46)", x.wind(46), 47);
        DUE.is("wind(1) to the full", x.wind(1), 48);
        DUE.is("wind(48) when full", x.wind(48), 48);
        DUE.is("hours left", x.count(1), 48);
        DUE.is("wind(48) when new", new WatchPoses().wind(48), 48);
        DUE.undoable(x, "wind(3)", () -> x.wind(3));
        for (int hours : new int[] {0, 49, -1, Integer.MIN_VALUE, Integer.MAX_VALUE}) {
            DUE.refusedArgument(x, "wind(" + hours + ")", () -> x.wind(hours));
        }
    }

    // Promise 3
    private static void weigh() {
        WatchPoses x = new WatchPoses();
        x.wind(20);
        DUE.is("weigh(0, 60)", x.weigh(0, 60), 102);
        DUE.is("weigh(0, -60)", x.weigh(0, -60), 160);
        DUE.is("weigh(5, 0)", x.weigh(5, 0), 96);
        DUE.is("weigh(0, -60) again", x.weigh(0, -60), 40);
        DUE.is("its rate: -60 * 124 / 100 down", x.pose(0, 2), 9925);
        DUE.is("the other pose stays", x.pose(1, 0), 98);
        DUE.undoable(x, "weigh(2, 7)", () -> x.weigh(2, 7));
        DUE.refusedArgument(x, "weigh(0, 61)", () -> x.weigh(0, 61));
        DUE.refusedArgument(x, "weigh(0, -61)", () -> x.weigh(0, -61));
        DUE.refusedIndex(x, "weigh(6, 0)", () -> x.weigh(6, 0));
        DUE.refusedIndex(x, "weigh(-1, 0)", () -> x.weigh(-1, 0));
        DUE.refusedIndex(x, "weigh(6, 61)", () -> x.weigh(6, 61));
    }

    // Promise 4
    private static void adjust() {
        WatchPoses x = new WatchPoses();
        DUE.is("adjust(-99, -50)", x.adjust(-99, -50), 100);
        DUE.is("regulator", x.count(2), 1);
        DUE.is("stud", x.count(3), 50);
        DUE.is("beat error has no sign", x.pose(0, 3), 50);
        DUE.is("adjust(99, 50)", x.adjust(99, 50), 1);
        DUE.is("beat error in pose 2", x.pose(2, 3), 52);
        DUE.undoable(x, "adjust(5, 6)", () -> x.adjust(5, 6));
        DUE.refusedArgument(x, "adjust(100, 0)", () -> x.adjust(100, 0));
        DUE.refusedArgument(x, "adjust(-100, 0)", () -> x.adjust(-100, 0));
        DUE.refusedArgument(x, "adjust(0, 51)", () -> x.adjust(0, 51));
        DUE.refusedArgument(x, "adjust(0, -51)", () -> x.adjust(0, -51));
    }

    // Promises 5 and 6
    private static void magnetism() {
        WatchPoses x = new WatchPoses();
        x.wind(48);
        DUE.is("knocks at swing 320", x.pose(0, 2), 10600);
        DUE.is("does not knock at swing 300", x.pose(2, 2), 10004);
        DUE.is("magnetise(1)", x.magnetise(1), 1);
        DUE.is("twice the magnetism", x.pose(2, 2), 10006);
        DUE.is("magnetise(49)", x.magnetise(49), 50);
        DUE.is("knocks still with magnetism 50", x.pose(0, 2), 10700);
        DUE.is("does not stick yet", x.pose(2, 2), 10104);
        DUE.is("magnetise(1) more", x.magnetise(1), 51);
        DUE.is("sticks in place of knocking", x.pose(0, 2), 10402);
        DUE.is("sticks whatever the swing", x.pose(2, 2), 10406);
        DUE.is("magnetise(100)", x.magnetise(100), 100);
        DUE.undoable(x, "magnetise(1) when full", () -> x.magnetise(1));
        DUE.undoable(x, "demagnetise()", x::demagnetise);
        for (int more : new int[] {0, 101, -1, Integer.MIN_VALUE, Integer.MAX_VALUE}) {
            DUE.refusedArgument(x, "magnetise(" + more + ")", () -> x.magnetise(more));
        }
        DUE.is("demagnetise()", x.demagnetise(), 100);
        DUE.is("magnetism", x.count(4), 0);
        DUE.is("knocks again", x.pose(0, 2), 10600);
        DUE.is("demagnetise() again", x.demagnetise(), 0);
        DUE.undoable(x, "demagnetise() of nothing", x::demagnetise);
    }

    // Promise 7
    private static void clean() {
        DUE.is("beat error with dirt 9", Due.dirty(9).pose(0, 3), 10);
        DUE.is("beat error with dirt 10", Due.dirty(10).pose(0, 3), 11);
        WatchPoses x = Due.dirty(11);
        DUE.is("swing with dirt 11", x.pose(0, 1), 309);
        DUE.is("beat error with dirt 11", x.pose(0, 3), 11);
        DUE.undoable(x, "clean()", x::clean);
        DUE.is("clean()", x.clean(), 11);
        DUE.is("dirt", x.count(5), 0);
        DUE.is("swing when clean", x.pose(0, 1), 320);
        DUE.is("beat error when clean", x.pose(0, 3), 10);
        DUE.is("clean() again", x.clean(), 0);
        DUE.undoable(x, "clean() of nothing", x::clean);
    }

    private static void dirtByAllHoursInWhichItWent() {
        WatchPoses x = new WatchPoses();
        x.wind(48);
        x.pass(23);
        DUE.is("dirt behind 23 hours", x.count(5), 0);
        x.pass(1);
        DUE.is("dirt behind 24 hours", x.count(5), 1);
        x.pass(10);
        x.clean();
        x.pass(13);
        DUE.is("dirt behind 47 hours, cleaned at 34", x.count(5), 0);
        x.pass(1);
        DUE.is("dirt behind 48 hours, cleaned at 34", x.count(5), 1);
        x.pass(99);
        DUE.is("no dirt from standing", x.count(5), 1);
    }

    // Promise 8
    private static void lay() {
        WatchPoses x = new WatchPoses();
        DUE.is("lay(5)", x.lay(5), 0);
        DUE.is("lay(0)", x.lay(0), 5);
        DUE.is("lay(3)", x.lay(3), 0);
        DUE.is("it lies", x.count(6), 3);
        DUE.undoable(x, "lay(3) again", () -> x.lay(3));
        for (int p : new int[] {6, -1, Integer.MIN_VALUE, Integer.MAX_VALUE}) {
            DUE.refusedIndex(x, "lay(" + p + ")", () -> x.lay(p));
        }
    }

    // Promise 9
    private static void pass() {
        WatchPoses x = new WatchPoses();
        DUE.is("pass(5) of a watch that stands", x.pass(5), 0);
        DUE.is("hours that it stood", x.count(9), 5);
        DUE.is("hour", x.count(0), 5);
        x.wind(3);
        x.lay(3);
        // 3 hours: swing 165, 162, 159; -8 * (195, 198, 201) / 100 = -16, -16, -17; / 24 = -1 each
        DUE.is("pass(99)", x.pass(99), 3);
        DUE.is("error is rounded down", x.count(8), 999997);
        DUE.is("hours that it stood then", x.count(9), 101);
        DUE.is("hours in which it went", x.count(15), 3);
        DUE.is("hours left", x.count(1), 0);
        DUE.is("hour then", x.count(0), 104);
        DUE.undoable(x, "pass(7)", () -> x.pass(7));
        for (int hours : new int[] {0, 100, -1, Integer.MIN_VALUE, Integer.MAX_VALUE}) {
            DUE.refusedArgument(x, "pass(" + hours + ")", () -> x.pass(hours));
        }
    }

    private static void errorByTheRateAheadOfTheHour() {
        WatchPoses x = new WatchPoses();
        x.wind(42);
        // Swing 302 knocks: (600 + 1) / 24 = 25; behind this hour the swing is 299: 1 / 24 = 0.
        x.pass(1);
        DUE.is("error of the hour that knocks", x.count(8), 1000025);
        x.pass(1);
        DUE.is("error of the hour that does not", x.count(8), 1000025);
    }

    private static void knocksAboveASwingOf300() {
        WatchPoses x = Due.dirty(1);
        x.pass(6);
        DUE.is("swing of 301", x.pose(0, 1), 301);
        DUE.is("knocks at 301", x.pose(0, 2), 10601);
        WatchPoses y = Due.dirty(2);
        y.pass(6);
        DUE.is("swing of 300", y.pose(0, 1), 300);
        DUE.is("does not knock at 300", y.pose(0, 2), 10001);
    }

    private static void dirtStopsIt() {
        WatchPoses x = new WatchPoses();
        x.lay(0);
        for (int round = 0; round < 150 && x.count(5) < 100; round++) {
            x.wind(48);
            x.pass(24);
        }
        DUE.is("dirt is at most 100", x.count(5), 100);
        x.wind(48);
        x.pass(24);
        DUE.is("dirt stays at 100", x.count(5), 100);
        x.wind(48);
        // 320 - 100 - 3 * lacking >= 120 up to 33 lacking hours; in poses 2 to 5 up to 26.
        DUE.is("stopsIn(0) with dirt 100", x.stopsIn(0), 34);
        DUE.is("stopsIn(2) with dirt 100", x.stopsIn(2), 27);
        DUE.is("it stops with hours left", x.pass(99), 34);
        DUE.is("hours left", x.count(1), 14);
        DUE.is("it does not go", x.count(7), 0);
        DUE.is("swing", x.pose(0, 1), 118);
        DUE.is("reason 2", x.pose(0, 4), 2);
        x.wind(1);
        DUE.is("it goes again", x.count(7), 1);
        DUE.is("swing of 121", x.pose(0, 1), 121);
        x.lay(2);
        DUE.is("it does not go in pose 2", x.count(7), 0);
    }

    private static void goesAtSwingOf120() {
        // 176 + 3 * left - dirt is 120 with dirt 59 and 1 hour left.
        WatchPoses x = Due.dirty(58);
        for (int hours = 0; hours < 24 && x.count(5) < 59; hours++) {
            x.pass(1);
        }
        for (int hours = 0; hours < 48 && x.count(1) > 1; hours++) {
            x.pass(1);
        }
        DUE.is("dirt", x.count(5), 59);
        DUE.is("swing of 120", x.pose(0, 1), 120);
        DUE.is("it goes", x.count(7), 1);
        DUE.is("a reading can be made", x.pose(0, 4), 0);
        DUE.is("none in pose 3", x.pose(3, 4), 2);
        DUE.refusedState(x, "read(3)", () -> x.read(3));
    }

    public static void main(String[] args) {
        newObject();
        wind();
        weigh();
        adjust();
        magnetism();
        clean();
        dirtByAllHoursInWhichItWent();
        lay();
        pass();
        errorByTheRateAheadOfTheHour();
        knocksAboveASwingOf300();
        dirtStopsIt();
        goesAtSwingOf120();
        DUE.end("WatchTest");
    }
}
