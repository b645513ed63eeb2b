// Promises 24 to 28.
public final class WouldBeTest {
    private static final Due DUE = new Due();

    private static void changesNothing(WatchPoses x, String call, Runnable look) {
        long before = x.digest();
        look.run();
        DUE.is("digest behind " + call, x.digest(), before);
    }

    // Promise 24
    private static void ifWorn() {
        WatchPoses x = Due.wound(20);
        changesNothing(x, "ifWorn", () -> x.ifWorn(3, 4, 5, 0));
        DUE.is("hours in which it would go", x.ifWorn(0, 2, 4, 1), 20);
        // Pose 0: rate 2 or 3, 0 each hour; pose 3: -8 * (360 - s) / 100 is below 0 and above -24: -1 each hour.
        DUE.is("ifWorn(0, 3, 0, 0)", x.ifWorn(0, 3, 0, 0), 99992);
        DUE.is("ifWorn(0, 0, 3, 0)", x.ifWorn(0, 0, 3, 0), 99996);
        DUE.is("ifWorn(3, 0, 0, 0)", x.ifWorn(3, 0, 0, 0), 99992);
        DUE.is("ifWorn(3, 3, 3, 0)", x.ifWorn(3, 3, 3, 0), 99980);
        DUE.is("the face of the watch stays", x.count(6), 0);
        x.wind(48);
        // Knocks for 7 hours (48 to 42 left) with 600, 25 an hour.
        DUE.is("ifWorn(0, 0, 0, 0) when full", x.ifWorn(0, 0, 0, 0), 100175);
        DUE.is("24 hours at most", x.ifWorn(0, 0, 0, 1), 24);
        x.pass(24);
        int error = x.count(8);
        DUE.is("that day", error, 1000175);
        DUE.is("the next one is told on its own", x.ifWorn(3, 3, 3, 0), 99976);
        DUE.is("a watch that stands", new WatchPoses().ifWorn(1, 2, 3, 0), 100000);
        DUE.is("goes in no hour", new WatchPoses().ifWorn(1, 2, 3, 1), 0);
        ifWornRefuses(x);
    }

    private static void ifWornRefuses(WatchPoses x) {
        DUE.refusedIndex(x, "ifWorn(6, 0, 0, 0)", () -> x.ifWorn(6, 0, 0, 0));
        DUE.refusedIndex(x, "ifWorn(0, 6, 0, 0)", () -> x.ifWorn(0, 6, 0, 0));
        DUE.refusedIndex(x, "ifWorn(0, 0, 6, 0)", () -> x.ifWorn(0, 0, 6, 0));
        DUE.refusedIndex(x, "ifWorn(0, 0, -1, 2)", () -> x.ifWorn(0, 0, -1, 2));
        DUE.refusedArgument(x, "ifWorn(0, 0, 0, 2)", () -> x.ifWorn(0, 0, 0, 2));
        DUE.refusedArgument(x, "ifWorn(5, 5, 5, -1)", () -> x.ifWorn(5, 5, 5, -1));
    }

    private static void ifWornAsItIsWornThen() {
        WatchPoses x = Due.dirty(59);
        x.pass(30);
        int due = x.ifWorn(1, 5, 0, 0) - 100000;
        int hours = x.ifWorn(1, 5, 0, 1);
        int error = x.count(8);
        x.lay(1);
        int went = x.pass(8);
        x.lay(5);
        went += x.pass(8);
        x.lay(0);
        went += x.pass(8);
        DUE.is("the error then", x.count(8) - error, due);
        DUE.is("the hours then", went, hours);
        DUE.holds("dirt stopped it in pose 5 alone or at last", hours < 18);
    }

    // Promise 25
    private static void bestRegulator() {
        WatchPoses x = new WatchPoses();
        // The sum without the regulator is -3: 0 leaves -3, 1 leaves 3; the lesser one it is.
        DUE.is("of two the lesser one", x.bestRegulator(), 100);
        x.adjust(50, 0);
        DUE.is("whatever the regulator is now", x.bestRegulator(), 100);
        x.adjust(0, 0);
        changesNothing(x, "bestRegulator", x::bestRegulator);
        x.weigh(0, 0);
        // -6 now
        DUE.is("the sum 0", x.bestRegulator(), 101);
        x.weigh(1, 0);
        // -2 now
        DUE.is("nearest to 0", x.bestRegulator(), 100);
        x.magnetise(40);
        // -2 + 480 = 478: -79 leaves 4, -80 leaves -2
        DUE.is("below 0", x.bestRegulator(), 20);
        x.magnetise(60);
        DUE.is("at least -99", x.bestRegulator(), 1);
        WatchPoses y = new WatchPoses();
        for (int p = 0; p < 6; p++) {
            y.weigh(p, -60);
        }
        // -60 * 184 / 100 = -111 (down), -60 * 204 / 100 = -123 (down): -714 in all
        DUE.is("at most 99", y.bestRegulator(), 199);
        y.weigh(0, -40);
        y.weigh(2, -59);
        // -74, -111, -121, -123, -123, -123: -675; 99 leaves -81
        DUE.is("at most 99 still", y.bestRegulator(), 199);
        y.weigh(1, 20);
        // 36 in place of -111: -528 is 6 times -88
        DUE.is("just 88", y.bestRegulator(), 188);
    }

    // Promise 26
    private static void stopsIn() {
        WatchPoses x = new WatchPoses();
        DUE.is("without hours", x.stopsIn(5), 0);
        x.wind(1);
        DUE.is("with one hour", x.stopsIn(5), 1);
        x.wind(48);
        DUE.is("at most 48", x.stopsIn(0), 48);
        changesNothing(x, "stopsIn", () -> x.stopsIn(4));
        for (int p : new int[] {6, -1, Integer.MIN_VALUE, Integer.MAX_VALUE}) {
            DUE.refusedIndex(x, "stopsIn(" + p + ")", () -> x.stopsIn(p));
        }
        WatchPoses y = Due.dirty(60);
        y.pass(10);
        for (int p = 0; p < 6; p++) {
            WatchPoses z = Due.dirty(60);
            z.pass(10);
            z.lay(p);
            DUE.is("stopsIn(" + p + ") with dirt", y.stopsIn(p), z.pass(99));
        }
        DUE.holds("dirt stops it before the spring", y.stopsIn(0) < y.count(1));
        DUE.holds("earlier in pose 2", y.stopsIn(2) < y.stopsIn(0));
    }

    // Promise 27
    private static void nightPose() {
        WatchPoses x = new WatchPoses();
        DUE.is("of several the lowest", x.nightPose(), 0);
        x.wind(20);
        // 0, -8, 0, -8, 0, -8
        DUE.is("again the lowest", x.nightPose(), 0);
        changesNothing(x, "nightPose", x::nightPose);
        x.adjust(-60, 10);
        // All poses bring about -3 each hour.
        x.weigh(4, 40);
        DUE.is("the one that is nearest", x.nightPose(), 4);
        WatchPoses y = Due.wound(48);
        y.pass(7);
        // 175 ahead: poses 1, 3 and 5 bring -8, the others 0.
        DUE.is("nearer to 0 from above", y.nightPose(), 1);
        y.weigh(5, -60);
        DUE.is("the greatest loss", y.nightPose(), 5);
        WatchPoses z = Due.wound(48);
        z.adjust(-99, 10);
        z.pass(48);
        z.wind(48);
        DUE.holds("behind by now", z.count(8) < 1000000);
        DUE.is("a gain that knocks is nearer to 0", z.nightPose(), 0);
    }

    // Promise 28
    private static void going() {
        WatchPoses x = new WatchPoses();
        DUE.isShare("without any hours", x.going(), 1.0);
        x.pass(1);
        DUE.isShare("not in the first hour", x.going(), 0.0);
        x.pass(3);
        DUE.isShare("never", x.going(), 0.0);
        x.wind(5);
        x.pass(2);
        DUE.isShare("2 of 6", x.going(), 2.0 / 6.0);
        x.pass(9);
        DUE.isShare("5 of 15", x.going(), 5.0 / 15.0);
        changesNothing(x, "going", x::going);
        x.undo();
        DUE.isShare("2 of 6 again", x.going(), 2.0 / 6.0);
        WatchPoses y = Due.wound(9);
        y.pass(9);
        DUE.isShare("always", y.going(), 1.0);
    }

    public static void main(String[] args) {
        ifWorn();
        ifWornAsItIsWornThen();
        bestRegulator();
        stopsIn();
        nightPose();
        going();
        DUE.end("WouldBeTest");
    }
}
