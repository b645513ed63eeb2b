// The boundary cases of "Terms: Readings" and "Settings" and of promises 10 to 12 and 21 to
// 23: above each test stands the sentence of the document that it is of.
public final class EdgeReadingTest {
    private static final Due DUE = new Due();
    private static final Class<IndexOutOfBoundsException> INDEX = IndexOutOfBoundsException.class;
    private static final Class<IllegalArgumentException> ARGUMENT = IllegalArgumentException.class;
    private static final int MIN = Integer.MIN_VALUE;
    private static final int MAX = Integer.MAX_VALUE;

    private static WatchPoses withoutWeights(int hours) {
        WatchPoses x = Due.wound(hours);
        Due.weighAll(x, 0, 0, 0, 0, 0, 0);
        return x;
    }

    private static void reason(WatchPoses x, int p, int due) {
        DUE.is("reason in pose " + p, x.pose(p, 4), due);
        if (due == 0) {
            DUE.undoable(x, "read(" + p + ")", () -> x.read(p));
        } else {
            DUE.refusedState(x, "read(" + p + ") for reason " + due, () -> x.read(p));
        }
    }

    // "It cannot be made for the first of these reasons that applies": all five apply, and go one by one
    private static void firstReasonThatApplies() {
        WatchPoses x = Due.dirty(58);
        for (int i = 0; i < 40; i++) {
            x.read(i % 6);
        }
        x.lay(0);
        DUE.is("hours until it is empty", x.pass(48), 48);
        x.adjust(0, 50);
        x.set(0, 10);
        x.magnetise(100);
        reason(x, 0, 1);
        reason(x, 5, 1);
        x.wind(1);
        reason(x, 0, 2);
        reason(x, 5, 2);
        x.wind(47);
        reason(x, 0, 3);
        reason(x, 5, 3);
        x.set(0, 200);
        reason(x, 0, 4);
        reason(x, 5, 4);
        x.set(1, 100);
        reason(x, 0, 5);
        reason(x, 5, 5);
        x.renew();
        reason(x, 0, 0);
        reason(x, 5, 0);
    }

    // "1: no hours are left": the same at the edge of one hour
    private static void reasonOfNoHours() {
        WatchPoses x = Due.wound(1);
        reason(x, 3, 0);
        x.pass(1);
        reason(x, 3, 1);
    }

    // "2: the swing would be below 120": in the pose of the reading, wherever it lies
    private static void reasonOfTheSwingInThatPose() {
        int[][] due = {{38, 0}, {39, 2}};
        for (int[] row : due) {
            WatchPoses x = Due.dirty(row[0]);
            x.pass(47);
            reason(x, 2, row[1]);
            DUE.is("it lies as before", x.count(6), 0);
            x.lay(2);
            reason(x, 2, row[1]);
            reason(x, 1, 0);
        }
        WatchPoses x = Due.dirty(39);
        x.lay(2);
        x.pass(47);
        DUE.is("it stands in pose 2", x.count(7), 0);
        x.read(1);
        DUE.is("it is laid into pose 1, and goes", x.count(7), 1);
    }

    // "3: the beat error would be above setting 0"
    private static void reasonOfTheBeatError() {
        WatchPoses x = Due.wound(20);
        reason(x, 0, 0);
        x.set(0, 10);
        reason(x, 0, 0);
        x.adjust(0, -11);
        reason(x, 0, 3);
        x.adjust(0, -8);
        reason(x, 2, 0);
        x.adjust(0, 9);
        reason(x, 2, 3);
        reason(x, 1, 0);
        WatchPoses y = Due.dirty(10);
        y.set(0, 11);
        reason(y, 0, 0);
        y.set(0, 10);
        reason(y, 0, 3);
        y.clean();
        reason(y, 0, 0);
    }

    // "4: the magnetism is above setting 1"
    private static void reasonOfTheMagnetism() {
        WatchPoses x = Due.wound(20);
        x.set(1, 0);
        reason(x, 0, 0);
        x.magnetise(1);
        reason(x, 0, 4);
        x.set(1, 1);
        reason(x, 0, 0);
        x.set(1, 99);
        x.magnetise(99);
        reason(x, 0, 4);
        x.set(1, 100);
        reason(x, 0, 0);
        WatchPoses y = Due.wound(20);
        y.magnetise(40);
        reason(y, 0, 0);
        y.magnetise(1);
        reason(y, 0, 4);
    }

    // "5: the paper has 40 readings"
    private static void reasonOfTheFullPaper() {
        WatchPoses x = Due.wound(20);
        for (int i = 0; i < 39; i++) {
            x.read(4);
        }
        reason(x, 0, 0);
        DUE.is("reading 40", x.read(0), 10002);
        reason(x, 0, 5);
        reason(x, 4, 5);
        DUE.is("readings on the paper", x.count(10), 40);
        DUE.is("readings so far", x.count(11), 40);
        x.undo();
        reason(x, 0, 0);
        x.read(1);
        x.renew();
        for (int i = 0; i < 40; i++) {
            x.read(i % 6);
        }
        reason(x, 0, 5);
        DUE.is("readings so far", x.count(11), 80);
    }

    // "A reading has its hour, pose, rate, beat error and swing": those of its time
    private static void readingStaysAsItWas() {
        WatchPoses x = Due.wound(47);
        x.pass(23);
        x.read(5);
        // 24 left: swing 228; -4 * 132 / 100 = -5.28, down: -6
        long[] due = {23, 5, 9994, 12, 228};
        x.pass(3);
        x.weigh(5, 60);
        x.adjust(9, 50);
        x.magnetise(9);
        for (int what = 0; what < 5; what++) {
            DUE.is("reading(0, " + what + ")", x.reading(0, what), due[what]);
        }
        DUE.is("latest rate in pose 5", x.pose(5, 6), 9994);
        DUE.is("latest hour in pose 5", x.pose(5, 5), 23);
    }

    // "it is printed on the paper behind all others"; reading: "its place on the paper, from 0, the oldest one"
    private static void readingsStandInTheirOrder() {
        WatchPoses x = Due.wound(48);
        for (int i = 0; i < 40; i++) {
            x.read((i * 5) % 6);
            x.pass(1);
        }
        for (int i = 0; i < 40; i++) {
            DUE.is("hour of reading " + i, x.reading(i, 0), i);
            DUE.is("pose of reading " + i, x.reading(i, 1), (i * 5) % 6);
        }
        DUE.is("latest in pose 0", x.pose(0, 5), 36);
        DUE.is("latest in pose 1", x.pose(1, 5), 35);
        DUE.is("readings in pose 3", x.pose(3, 7), 7);
        DUE.is("readings in pose 2", x.pose(2, 7), 6);
    }

    // "NONE if there are not so many"; "IllegalArgumentException if reading is below 0, or what is not 0 to 4"
    private static void readingAtItsEdges() {
        DUE.is("reading(0, 0) of an empty paper", new WatchPoses().reading(0, 0), -1);
        WatchPoses x = Due.wound(20);
        x.read(0);
        // Five times the places behind 200 would wrap around as an int, some into the first reading.
        int[] behind = {1, 2, 39, 40, 41, 199, 200, 429496730, 858993459, 858993460, 1717986919, MAX};
        for (int place : behind) {
            for (int what = 0; what < 5; what++) {
                DUE.is("reading(" + place + ", " + what + ") of one", x.reading(place, what), -1);
            }
        }
        DUE.is("the last one", x.reading(0, 4), 236);
        DUE.allRefused(x, "reading", ARGUMENT, r -> x.reading(r, 0), -1, MIN);
        DUE.allRefused(x, "reading, what", ARGUMENT, w -> x.reading(0, w), -1, 5, MIN, MAX);
        DUE.allRefused(x, "reading, what of none", ARGUMENT, w -> x.reading(MAX, w), -1, 5, MIN, MAX);
    }

    private static void day(WatchPoses x, String when, int rate, int reason) {
        DUE.is(when + ": the day's rate", x.count(12), rate);
        DUE.is(when + ": the same by the paper", x.count(13), rate);
        DUE.is(when + ": why not", x.count(14), reason);
    }

    // "the mean of the rates of the latest reading in each pose": rounded down
    private static void meanIsRoundedDown() {
        int[][] due = {{0, 0}, {1, 0}, {5, 0}, {6, 1}, {7, 1}, {11, 1}, {12, 2},
            {-1, -1}, {-5, -1}, {-6, -1}, {-7, -2}, {-11, -2}, {-12, -2}, {-13, -3}};
        for (int[] row : due) {
            for (int odd = 0; odd < 6; odd++) {
                WatchPoses x = withoutWeights(20);
                for (int p = 0; p < 6; p++) {
                    x.adjust(p == odd ? row[0] : 0, 0);
                    x.read(p);
                }
                day(x, "a sum of " + row[0] + " by pose " + odd, 10000 + row[1], 0);
            }
        }
    }

    // "if there is a reading in each of the 6 poses (else reason 6)"
    private static void readingInEachPose() {
        for (int missing = 0; missing < 6; missing++) {
            WatchPoses x = Due.wound(20);
            for (int p = 0; p < 12; p++) {
                if (p % 6 != missing) {
                    x.read(p % 6);
                }
            }
            day(x, "without pose " + missing, -1, 6);
            x.read(missing);
            day(x, "with pose " + missing, 9999, 0);
        }
        day(new WatchPoses(), "an empty paper", -1, 6);
    }

    // "that is not older than setting 2 hours (else reason 7)"
    private static void readingNotTooOld() {
        for (int old = 0; old < 6; old++) {
            WatchPoses x = withoutWeights(40);
            x.set(2, 1);
            x.pass(9);
            x.read(old);
            x.pass(1);
            for (int p = 0; p < 6; p++) {
                if (p != old) {
                    x.read(p);
                }
            }
            day(x, "pose " + old + " 1 hour old of 1", 10000, 0);
            x.pass(1);
            day(x, "pose " + old + " 2 hours old of 1", -1, 7);
            x.read(old);
            day(x, "pose " + old + " anew", 10000, 0);
        }
    }

    // The same with the most hours that the setting takes, and as it is at first
    private static void readingNotTooOldByTheSetting() {
        WatchPoses x = withoutWeights(40);
        x.pass(7);
        Due.readAll(x);
        x.pass(24);
        day(x, "24 hours old of 24", 10000, 0);
        x.pass(1);
        day(x, "25 hours old of 24", -1, 7);
        x.set(2, 25);
        day(x, "25 hours old of 25", 10000, 0);
        x.set(2, 200);
        x.pass(99);
        x.pass(76);
        day(x, "200 hours old of 200", 10000, 0);
        x.pass(1);
        day(x, "201 hours old of 200", -1, 7);
    }

    private static void spread(int from, int to, int setting, int reason) {
        WatchPoses x = withoutWeights(20);
        x.set(3, setting);
        for (int p = 0; p < 6; p++) {
            x.adjust(p == from ? -40 : p == to ? setting - 40 + (reason == 0 ? 0 : 1) : -38, 0);
            x.read(p);
        }
        DUE.is("why not, " + setting + " from " + from + " to " + to, x.count(14), reason);
        DUE.is("there or not", x.count(12) == -1 ? 8 : 0, reason);
        DUE.is("both ways", x.count(12), x.count(13));
    }

    // "the greatest of these six rates less the least one is at most setting 3 (else reason 8)"
    private static void spreadOfTheSix() {
        for (int setting : new int[] {5, 6, 60, 99}) {
            for (int pose = 0; pose < 6; pose++) {
                spread(pose, (pose + 1) % 6, setting, 0);
                spread(pose, (pose + 1) % 6, setting, 8);
                spread(pose, (pose + 4) % 6, setting, 8);
            }
        }
    }

    // The same with the most that the setting takes
    private static void spreadOf900() {
        for (int weight = -4; weight <= -3; weight++) {
            WatchPoses x = withoutWeights(48);
            x.set(1, 100);
            x.set(3, 900);
            x.adjust(99, 10);
            x.magnetise(50);
            DUE.is("99 + 600 + 100", x.read(0), 10799);
            x.demagnetise();
            x.adjust(-99, 10);
            x.weigh(5, weight);
            x.read(2);
            x.read(3);
            x.read(4);
            DUE.is("-99 and the weight's part", x.read(5), weight == -3 ? 9899 : 9898);
            DUE.is("-99 + 600", x.read(1), 10501);
            if (weight == -3) {
                // 799 - 99 * 3 - 101 + 501 = 902; divided by 6: 150
                day(x, "a spread of 900", 10150, 0);
            } else {
                day(x, "a spread of 901", -1, 8);
            }
        }
    }

    // "for the reason": 6 is ahead of 7 and 8, 7 is ahead of 8
    private static void reasonsOfTheDayInTheirOrder() {
        WatchPoses x = withoutWeights(40);
        x.set(3, 5);
        x.set(2, 3);
        for (int p = 0; p < 5; p++) {
            x.adjust(20 * p, 0);
            x.read(p);
        }
        x.pass(4);
        day(x, "6 is ahead of 7 and 8", -1, 6);
        x.read(5);
        day(x, "7 is ahead of 8", -1, 7);
        x.set(2, 4);
        day(x, "8 is left", -1, 8);
        x.set(3, 80);
        // 0 + 20 + 40 + 60 + 80 + 80 = 280; divided by 6: 46
        day(x, "none is left", 10046, 0);
    }

    // "Settings: 0: 10 to 200, at first 60; 1: 0 to 100, at first 40; 2: 1 to 200, at first 24; 3: 5 to 900, at first 60."
    private static void settings() {
        int[][] due = {{60, 10, 200}, {40, 0, 100}, {24, 1, 200}, {60, 5, 900}};
        WatchPoses x = new WatchPoses();
        for (int s = 0; s < 4; s++) {
            int setting = s;
            DUE.is("setting " + s + " at first", x.count(16 + s), due[s][0]);
            DUE.is("set to the least", x.set(s, due[s][1]), due[s][0]);
            DUE.is("set to the most", x.set(s, due[s][2]), due[s][1]);
            DUE.is("set as it is", x.set(s, due[s][2]), due[s][2]);
            DUE.allRefused(x, "setting " + s, ARGUMENT, v -> x.set(setting, v),
                due[s][1] - 1, due[s][2] + 1, MIN, MAX);
            DUE.is("the setting stays", x.count(16 + s), due[s][2]);
        }
        DUE.allRefused(x, "set", INDEX, s -> x.set(s, 50), -1, 4, 5, MIN, MAX);
        DUE.allRefused(x, "set out of all range", INDEX, s -> x.set(s, MIN), -1, 4, 5, MIN, MAX);
    }

    // renew: "Returns how many readings the old one had."
    private static void renew() {
        for (int readings : new int[] {0, 1, 6, 39, 40}) {
            WatchPoses x = Due.wound(20);
            for (int i = 0; i < readings; i++) {
                x.read(i % 6);
            }
            DUE.is("renew() of " + readings, x.renew(), readings);
            DUE.is("readings on the new paper", x.count(10), 0);
            DUE.is("readings so far", x.count(11), readings);
            DUE.is("no reading 0", x.reading(0, 2), -1);
            day(x, "on the new paper", -1, 6);
        }
    }

    // pose: "NONE without one"; "IllegalArgumentException if what is not 0 to 7"
    private static void poseAtItsEdges() {
        WatchPoses x = Due.wound(20);
        x.adjust(-99, 10);
        x.read(3);
        for (int p = 0; p < 6; p++) {
            int inPose = p;
            DUE.is("latest hour in " + p, x.pose(p, 5), p == 3 ? 0 : -1);
            DUE.is("latest rate in " + p, x.pose(p, 6), p == 3 ? 9889 : -1);
            DUE.is("readings in " + p, x.pose(p, 7), p == 3 ? 1 : 0);
            DUE.allRefused(x, "pose, what", ARGUMENT, w -> x.pose(inPose, w), -1, 8, MIN, MAX);
        }
        DUE.allRefused(x, "no pose and no such number", INDEX, p -> x.pose(p, 8), -1, 6, MIN, MAX);
        WatchPoses y = new WatchPoses();
        y.weigh(0, -60);
        y.weigh(1, 60);
        DUE.is("the least weight", y.pose(0, 0), 40);
        DUE.is("the greatest weight", y.pose(1, 0), 160);
    }

    // count: "IllegalArgumentException if what is not 0 to 20"; its numbers at their edges
    private static void countAtItsEdges() {
        WatchPoses x = new WatchPoses();
        DUE.allRefused(x, "count", ARGUMENT, x::count, -1, 21, MIN, MAX);
        x.adjust(-99, -50);
        DUE.is("the least regulator", x.count(2), 1);
        DUE.is("the least stud", x.count(3), 50);
        x.adjust(99, 50);
        DUE.is("the greatest regulator", x.count(2), 199);
        DUE.is("the greatest stud", x.count(3), 150);
        x.magnetise(100);
        DUE.is("the greatest magnetism", x.count(4), 100);
        x.lay(5);
        DUE.is("the last pose", x.count(6), 5);
        DUE.is("four saved states", x.count(20), 4);
        x.lay(0);
        x.lay(0);
        DUE.is("six saved states", x.count(20), 6);
        x.lay(1);
        DUE.is("never more", x.count(20), 6);
    }

    // "the error of the watch, and 1000000 more": far to both sides
    private static void farErrors() {
        WatchPoses x = new WatchPoses();
        x.adjust(99, 0);
        x.magnetise(50);
        x.weigh(0, 0);
        for (int i = 0; i < 90; i++) {
            x.wind(48);
            x.pass(1);
        }
        // (99 + 100 + 600) / 24 is 33 as long as the dirt is below 20.
        DUE.is("fast", x.count(8), 1000000 + 90 * 33);
        WatchPoses y = new WatchPoses();
        y.adjust(-99, 0);
        y.weigh(5, 0);
        y.lay(5);
        for (int i = 0; i < 30; i++) {
            y.wind(48);
            y.pass(48);
        }
        DUE.is("hours", y.count(15), 30 * 48 - y.count(9));
        DUE.is("slow", y.count(8), 1000000 - 5 * y.count(15));
    }

    public static void main(String[] args) {
        firstReasonThatApplies();
        reasonOfNoHours();
        reasonOfTheSwingInThatPose();
        reasonOfTheBeatError();
        reasonOfTheMagnetism();
        reasonOfTheFullPaper();
        readingStaysAsItWas();
        readingsStandInTheirOrder();
        readingAtItsEdges();
        meanIsRoundedDown();
        readingInEachPose();
        readingNotTooOld();
        readingNotTooOldByTheSetting();
        spreadOfTheSix();
        spreadOf900();
        reasonsOfTheDayInTheirOrder();
        settings();
        renew();
        poseAtItsEdges();
        countAtItsEdges();
        farErrors();
        DUE.end("EdgeReadingTest");
    }
}
