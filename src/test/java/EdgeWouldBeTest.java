// The boundary cases of promises 24 to 28: above each test stands the sentence of the
// document that it is of. Those of promise 29 stand in DigestTest.
public final class EdgeWouldBeTest {
    private static final Due DUE = new Due();
    private static final Class<IndexOutOfBoundsException> INDEX = IndexOutOfBoundsException.class;
    private static final Class<IllegalArgumentException> ARGUMENT = IllegalArgumentException.class;
    private static final int MIN = Integer.MIN_VALUE;
    private static final int MAX = Integer.MAX_VALUE;

    private static WatchPoses withoutWeights(int hours) {
        WatchPoses x = hours == 0 ? new WatchPoses() : Due.wound(hours);
        Due.weighAll(x, 0, 0, 0, 0, 0, 0);
        return x;
    }

    // ifWorn: "1: hours in which it would go"
    private static void wornHours() {
        for (int hours : new int[] {0, 1, 7, 8, 9, 15, 16, 17, 23, 24, 25, 48}) {
            WatchPoses x = withoutWeights(hours);
            DUE.is("hours worn of " + hours, x.ifWorn(0, 2, 4, 1), Math.min(24, hours));
            DUE.is("hours worn in one pose of " + hours, x.ifWorn(5, 5, 5, 1), Math.min(24, hours));
        }
    }

    private static void wornError(int hours, int first, int second, int third) {
        WatchPoses x = withoutWeights(hours);
        // With it each hour in pose 1 brings -1, and each in another pose 0.
        x.weigh(1, -1);
        DUE.is("first 8 hours of " + hours, x.ifWorn(1, 0, 2, 0), 100000 - first);
        DUE.is("next 8 hours of " + hours, x.ifWorn(3, 1, 4, 0), 100000 - second);
        DUE.is("last 8 hours of " + hours, x.ifWorn(5, 0, 1, 0), 100000 - third);
        DUE.is("all hours of " + hours, x.ifWorn(1, 1, 1, 0), 100000 - first - second - third);
        DUE.is("no hour of " + hours, x.ifWorn(0, 0, 0, 0), 100000);
    }

    // ifWorn: "the pose of the first 8 hours", "that of the next 8", "that of the last 8"
    private static void wornPoses() {
        wornError(0, 0, 0, 0);
        wornError(1, 1, 0, 0);
        wornError(7, 7, 0, 0);
        wornError(8, 8, 0, 0);
        wornError(9, 8, 1, 0);
        wornError(16, 8, 8, 0);
        wornError(17, 8, 8, 1);
        wornError(23, 8, 8, 7);
        wornError(24, 8, 8, 8);
        wornError(40, 8, 8, 8);
    }

    // ifWorn: a pose in which it stands, and one in which it goes
    private static void wornWhereItStands() {
        WatchPoses x = Due.dirty(39);
        x.pass(47);
        DUE.is("it stands in pose 2, and goes in pose 0", x.ifWorn(2, 2, 0, 1), 1);
        DUE.is("it stands in poses 2 to 5", x.ifWorn(2, 3, 5, 1), 0);
        DUE.is("the error stays then", x.ifWorn(2, 3, 5, 0), 100000);
        x.lay(4);
        DUE.is("the pose in which it lies does not count", x.ifWorn(1, 4, 4, 1), 1);
    }

    // ifWorn: "if what is neither 0 nor 1"; "nothing is changed"
    private static void wornIsRefused() {
        WatchPoses x = Due.wound(30);
        x.lay(3);
        long before = x.digest();
        DUE.allRefused(x, "ifWorn, what", ARGUMENT, w -> x.ifWorn(0, 2, 5, w), -1, 2, MIN, MAX);
        DUE.allRefused(x, "ifWorn, pose", INDEX, p -> x.ifWorn(p, p, p, 0), -1, 6, MIN, MAX);
        x.ifWorn(0, 1, 2, 0);
        DUE.is("digest behind the looks", x.digest(), before);
    }

    private static void best(WatchPoses x, int sum, int due) {
        int found = 0;
        for (int p = 0; p < 6; p++) {
            found += x.pose(p, 2) - 10000;
        }
        DUE.is("sum of the rates at regulator 0", found, sum);
        DUE.is("bestRegulator() with sum " + sum, x.bestRegulator(), due + 100);
        for (int regulator : new int[] {-99, -1, 1, 99}) {
            x.adjust(regulator, 10);
            DUE.is("the same at regulator " + regulator, x.bestRegulator(), due + 100);
        }
    }

    private static WatchPoses weighted(int magnetism, int... weights) {
        WatchPoses x = new WatchPoses();
        Due.weighAll(x, weights);
        if (magnetism > 0) {
            x.magnetise(magnetism);
        }
        return x;
    }

    // bestRegulator: "with which the sum of the rates in all poses now is nearest to 0; of two the lesser one"
    private static void bestNearZero() {
        // Without hours a weight counts 1.84 times in the poses 0 and 1, and 2.04 times in the others.
        best(weighted(0, 0, 0, 0, 0, 0, 0), 0, 0);
        best(weighted(0, 1, 1, 0, 0, 0, 0), 2, 0);
        best(weighted(0, 2, 0, 0, 0, 0, 0), 3, -1);
        best(weighted(0, 0, 0, 0, 2, 0, 0), 4, -1);
        best(weighted(0, -1, 0, 0, 0, 0, 0), -2, 0);
        best(weighted(0, 2, -3, 0, 0, 0, 0), -3, 0);
        best(weighted(0, 0, -2, 0, 0, 0, 0), -4, 1);
        best(weighted(1, 0, 0, 0, 0, 0, 0), 12, -2);
    }

    // bestRegulator: "Returns of -99 to 99 the one"
    private static void bestAtTheEnds() {
        best(weighted(49, 0, 0, 0, 0, 0, 0), 588, -98);
        best(weighted(49, 1, 1, 0, 0, 0, 0), 590, -98);
        best(weighted(49, 2, 0, 0, 0, 0, 0), 591, -99);
        best(weighted(49, 3, 1, 0, 0, 0, 0), 594, -99);
        best(weighted(50, 0, 0, 0, 0, 0, 0), 600, -99);
        best(weighted(51, 0, 0, 0, 0, 0, 0), 2412, -99);
        best(weighted(0, -27, -26, -60, -60, -60, -60), -590, 98);
        best(weighted(0, -29, -24, -60, -60, -60, -60), -591, 98);
        best(weighted(0, -27, -27, -60, -60, -60, -60), -592, 99);
        best(weighted(0, -27, -28, -60, -60, -60, -60), -594, 99);
        best(weighted(0, -32, -25, -60, -60, -60, -60), -597, 99);
        best(weighted(0, -60, -60, -60, -60, -60, -60), -714, 99);
        best(withoutWeights(48), 1200, -99);
    }

    // stopsIn: "behind how many hours it does not go any more, 0 if it does not go now; at most 48"
    private static void stopsBySpring() {
        for (int hours : new int[] {0, 1, 2, 24, 47, 48}) {
            for (int p = 0; p < 6; p++) {
                WatchPoses x = withoutWeights(hours);
                DUE.is("stopsIn(" + p + ") of " + hours, x.stopsIn(p), hours);
                DUE.is("it lies as before", x.count(6), 0);
            }
        }
        WatchPoses x = Due.wound(30);
        DUE.allRefused(x, "stopsIn", INDEX, x::stopsIn, -1, 6, MIN, MAX);
    }

    // The same of a watch that stops with hours left; the dirt of these hours counts
    private static void stopsByDirt() {
        DUE.is("a swing of 120 with the last hour", Due.dirty(58).stopsIn(0), 48);
        DUE.is("a swing of 119 with the last hour", Due.dirty(59).stopsIn(1), 47);
        DUE.is("a swing of 120 with the last hour, pose 2", Due.dirty(38).stopsIn(2), 48);
        DUE.is("a swing of 119 with the last hour, pose 5", Due.dirty(39).stopsIn(5), 47);
        DUE.is("dirt 100, pose 1", Due.dirty(100).stopsIn(1), 34);
        DUE.is("dirt 100, pose 3", Due.dirty(100).stopsIn(3), 27);
    }

    // The same: of the pose that is asked, and not of that in which it lies
    private static void stopsInThatPose() {
        WatchPoses x = Due.dirty(39);
        x.pass(47);
        DUE.is("it goes where it lies", x.count(7), 1);
        DUE.is("it would not in pose 2", x.stopsIn(2), 0);
        x.lay(2);
        DUE.is("it does not go where it lies", x.count(7), 0);
        DUE.is("it would in pose 0", x.stopsIn(0), 1);
        DUE.is("it does not in pose 2", x.stopsIn(2), 0);
    }

    /** Its error is 19, 20 or 21; then each hour brings -3 in a pose without a weight. */
    private static WatchPoses ahead(int error, int... weights) {
        WatchPoses x = withoutWeights(40);
        x.adjust(96, 10);
        x.pass(error == 19 ? 4 : 5);
        if (error != 20) {
            x.adjust(error == 19 ? 72 : 24, 10);
            x.pass(1);
        }
        DUE.is("error", x.count(8), 1000000 + error);
        x.adjust(-60, 10);
        Due.weighAll(x, weights);
        return x;
    }

    // nightPose: "in which the error of the watch would be nearest to 0 behind 8 hours from now; of several the lowest"
    private static void nightOf8Hours() {
        // The weight 20 brings -2 in each of these hours, and 60 about 0.
        DUE.is("-5 and 3", ahead(19, 0, 20, 60, 60, 60, 60).nightPose(), 1);
        DUE.is("-4 and 4", ahead(20, 0, 20, 60, 60, 60, 60).nightPose(), 0);
        DUE.is("4 and -4", ahead(20, 20, 0, 60, 60, 60, 60).nightPose(), 0);
        DUE.is("-3 and 5", ahead(21, 0, 20, 60, 60, 60, 60).nightPose(), 0);
        DUE.is("5 and -3", ahead(21, 20, 0, 60, 60, 60, 60).nightPose(), 1);
        DUE.is("-4 in pose 3 and in pose 5", ahead(20, 60, 60, 60, 0, 60, 0).nightPose(), 3);
        DUE.is("-4 in pose 5", ahead(20, 60, 60, 60, 60, 60, 0).nightPose(), 5);
        DUE.is("-4 in all", ahead(20, 0, 0, 0, 0, 0, 0).nightPose(), 0);
    }

    // The same of a watch that stands, everywhere or in some poses
    private static void nightOfOneThatStands() {
        DUE.is("new", new WatchPoses().nightPose(), 0);
        WatchPoses x = Due.wound(20);
        x.lay(3);
        x.pass(99);
        DUE.is("without hours", x.nightPose(), 0);
        WatchPoses y = Due.dirty(39);
        y.pass(47);
        y.weigh(0, 60);
        y.weigh(1, 60);
        DUE.holds("it is fast", y.count(8) > 1000000);
        DUE.is("it stands in poses 2 to 5", y.nightPose(), 2);
    }

    // going: "1.0 without any"
    private static void goingAtItsEdges() {
        WatchPoses x = new WatchPoses();
        DUE.isShare("without any hours", x.going(), 1.0);
        x.wind(48);
        x.keep();
        DUE.isShare("wound, without any hours", x.going(), 1.0);
        x.pass(48);
        DUE.isShare("all hours", x.going(), 1.0);
        x.pass(48);
        DUE.isShare("half of the hours", x.going(), 0.5);
        x.pass(48);
        DUE.isShare("a third of the hours", x.going(), 48.0 / 144.0);
        x.restore();
        DUE.isShare("again without any hours", x.going(), 1.0);
        x.undo();
        DUE.isShare("again a third", x.going(), 1.0 / 3.0);
        WatchPoses y = new WatchPoses();
        y.pass(1);
        DUE.isShare("one hour that it stood", y.going(), 0.0);
        y.undo();
        DUE.isShare("without that hour", y.going(), 1.0);
    }

    public static void main(String[] args) {
        wornHours();
        wornPoses();
        wornWhereItStands();
        wornIsRefused();
        bestNearZero();
        bestAtTheEnds();
        stopsBySpring();
        stopsByDirt();
        stopsInThatPose();
        nightOf8Hours();
        nightOfOneThatStands();
        goingAtItsEdges();
        DUE.end("EdgeWouldBeTest");
    }
}
