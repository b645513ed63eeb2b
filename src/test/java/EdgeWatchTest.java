// The boundary cases of "Terms: The watch" and "Time" and of promises 1 to 9: above each
// test stands the sentence of the document that it is of.
public final class EdgeWatchTest {
    private static final Due DUE = new Due();
    private static final Class<IndexOutOfBoundsException> INDEX = IndexOutOfBoundsException.class;
    private static final Class<IllegalArgumentException> ARGUMENT = IllegalArgumentException.class;
    private static final int MIN = Integer.MIN_VALUE;
    private static final int MAX = Integer.MAX_VALUE;

    // "divisions are rounded down (towards the lesser number, also below 0)": the weight's part
    private static void weightIsDividedDown() {
        // 20 hours left: 360 less the swing is 124 in pose 1 and 144 in pose 2.
        int[][] due = {{0, 0, 0}, {1, 1, 1}, {-1, -2, -2}, {25, 31, 36}, {-25, -31, -36}, {26, 32, 37}, {-26, -33, -38},
            {60, 74, 86}, {-60, -75, -87}};
        for (int[] row : due) {
            WatchPoses x = Due.wound(20);
            x.weigh(1, row[0]);
            x.weigh(2, row[0]);
            DUE.is("rate in pose 1 with weight " + row[0], x.pose(1, 2), 10000 + row[1]);
            DUE.is("rate in pose 2 with weight " + row[0], x.pose(2, 2), 10000 + row[2]);
            x.adjust(-99, 0);
            x.magnetise(1);
            DUE.is("only the weight is divided, " + row[0], x.pose(1, 2), 10000 + row[1] - 99 + 2);
        }
    }

    // The same of "the rate of this pose ... divided by 24"
    private static void hourlyErrorIsDividedDown() {
        int[][] due = {{0, 0}, {1, 0}, {23, 0}, {24, 1}, {25, 1}, {47, 1}, {48, 2}, {99, 4},
            {-1, -1}, {-23, -1}, {-24, -1}, {-25, -2}, {-48, -2}, {-49, -3}, {-99, -5}};
        for (int[] row : due) {
            WatchPoses x = Due.wound(20);
            x.weigh(0, 0);
            x.adjust(row[0], 0);
            x.pass(1);
            DUE.is("error behind an hour of rate " + row[0], x.count(8), 1000000 + row[1]);
            x.pass(9);
            DUE.is("each hour is divided on its own, " + row[0], x.count(8), 1000000 + 10 * row[1]);
        }
    }

    // The same of "the dirt divided by 10"
    private static void dirtIsDividedDown() {
        int[][] due = {{0, 0}, {1, 0}, {9, 0}, {10, 1}, {19, 1}, {20, 2}, {99, 9}, {100, 10}};
        for (int[] row : due) {
            WatchPoses x = Due.dirty(row[0]);
            DUE.is("dirt", x.count(5), row[0]);
            DUE.is("beat error in pose 0 with dirt " + row[0], x.pose(0, 3), 10 + row[1]);
            DUE.is("beat error in pose 5 with dirt " + row[0], x.pose(5, 3), 12 + row[1]);
        }
    }

    // "There are 6 poses, numbered from 0": "IndexOutOfBoundsException if there is no such pose"
    private static void thereAreSixPoses() {
        int[] none = {-1, 6, MIN, MAX};
        WatchPoses x = Due.wound(20);
        x.lay(5);
        DUE.allRefused(x, "weigh", INDEX, p -> x.weigh(p, 0), none);
        DUE.allRefused(x, "lay", INDEX, x::lay, none);
        DUE.allRefused(x, "read", INDEX, x::read, none);
        DUE.allRefused(x, "pose", INDEX, p -> x.pose(p, 0), none);
        DUE.allRefused(x, "ifWorn, first", INDEX, p -> x.ifWorn(p, 0, 0, 0), none);
        DUE.allRefused(x, "ifWorn, second", INDEX, p -> x.ifWorn(0, p, 0, 0), none);
        DUE.allRefused(x, "ifWorn, third", INDEX, p -> x.ifWorn(0, 0, p, 0), none);
        DUE.allRefused(x, "stopsIn", INDEX, x::stopsIn, none);
    }

    // "A pose has a weight, -60 to 60, at first 2, -2, 8, -8, 4 and -4."; "the previous one, and 100 more"
    private static void weights() {
        int[] first = {2, -2, 8, -8, 4, -4};
        WatchPoses x = new WatchPoses();
        for (int p = 0; p < 6; p++) {
            int inPose = p;
            DUE.is("weigh to the most", x.weigh(p, 60), first[p] + 100);
            DUE.is("weigh to the least", x.weigh(p, -60), 160);
            DUE.is("weigh to 0", x.weigh(p, 0), 40);
            DUE.is("weigh as before", x.weigh(p, first[p]), 100);
            DUE.allRefused(x, "weight of " + p, ARGUMENT, w -> x.weigh(inPose, w), -61, 61, MIN, MAX);
        }
        for (int p = 0; p < 6; p++) {
            DUE.is("weight of " + p, x.pose(p, 0), first[p] + 100);
        }
    }

    // "a regulator, -99 to 99, at first 0; a stud, -50 to 50, at first 10"
    private static void regulatorAndStud() {
        WatchPoses x = new WatchPoses();
        DUE.is("regulator at first", x.adjust(99, 50), 100);
        DUE.is("regulator at the most", x.adjust(-99, -50), 199);
        DUE.is("regulator at the least", x.adjust(99, -50), 1);
        DUE.is("both are set: the regulator", x.count(2), 199);
        DUE.is("both are set: the stud", x.count(3), 50);
        DUE.allRefused(x, "regulator", ARGUMENT, r -> x.adjust(r, 0), -100, 100, MIN, MAX);
        DUE.allRefused(x, "stud", ARGUMENT, s -> x.adjust(0, s), -51, 51, MIN, MAX);
        DUE.allRefused(x, "regulator and stud", ARGUMENT, v -> x.adjust(v, v), -100, 100, MIN, MAX);
    }

    // "hours that are left of the spring, 0 to 48, at first 0"; "the hours left then, at most 48"
    private static void hoursLeft() {
        int[][] due = {{0, 1, 1}, {0, 47, 47}, {0, 48, 48}, {1, 46, 47}, {1, 47, 48}, {1, 48, 48}, {47, 1, 48}, {47, 2, 48},
            {48, 1, 48}, {48, 48, 48}};
        for (int[] row : due) {
            WatchPoses x = row[0] == 0 ? new WatchPoses() : Due.wound(row[0]);
            DUE.is("wind(" + row[1] + ") on " + row[0], x.wind(row[1]), row[2]);
            DUE.is("hours left", x.count(1), row[2]);
            DUE.allRefused(x, "wind", ARGUMENT, x::wind, 0, -1, 49, MIN, MAX);
        }
        WatchPoses x = Due.wound(1);
        x.pass(99);
        DUE.is("hours left are at least 0", x.count(1), 0);
    }

    // "magnetism, 0 to 100, at first 0"; "the magnetism then, at most 100"; "the magnetism before"
    private static void magnetism() {
        int[][] due = {{0, 1, 1}, {0, 99, 99}, {0, 100, 100}, {1, 99, 100}, {1, 100, 100}, {99, 1, 100}, {99, 2, 100},
            {100, 1, 100}, {100, 100, 100}};
        for (int[] row : due) {
            WatchPoses x = new WatchPoses();
            if (row[0] > 0) {
                x.magnetise(row[0]);
            }
            DUE.is("magnetise(" + row[1] + ") on " + row[0], x.magnetise(row[1]), row[2]);
            DUE.allRefused(x, "magnetise", ARGUMENT, x::magnetise, 0, -1, 101, MIN, MAX);
            DUE.is("demagnetise()", x.demagnetise(), row[2]);
            DUE.is("magnetism then", x.count(4), 0);
            DUE.is("demagnetise() of nothing", x.demagnetise(), 0);
        }
    }

    // "dirt, 0 to 100, at first 0"; "the dirt becomes 1 more, at most 100"; clean: "the dirt before"
    private static void dirt() {
        DUE.is("clean() at first", new WatchPoses().clean(), 0);
        DUE.is("clean() of 1", Due.dirty(1).clean(), 1);
        WatchPoses x = Due.dirty(99);
        DUE.is("hours in which it goes with dirt 99", x.pass(23), 23);
        DUE.is("dirt 99 behind 23 hours", x.count(5), 99);
        x.pass(1);
        DUE.is("dirt 100", x.count(5), 100);
        x.wind(48);
        DUE.is("it still goes for 24 hours", x.pass(24), 24);
        DUE.is("dirt is at most 100", x.count(5), 100);
        DUE.is("clean() of 100", x.clean(), 100);
        DUE.is("dirt then", x.count(5), 0);
        x.wind(48);
        x.pass(24);
        DUE.is("dirt begins anew", x.count(5), 1);
    }

    // "a pose in which it lies, at first 0"; lay: "Returns the previous pose."
    private static void lies() {
        WatchPoses x = new WatchPoses();
        DUE.is("lay as at first", x.lay(0), 0);
        for (int p = 1; p < 6; p++) {
            DUE.is("lay(" + p + ")", x.lay(p), p - 1);
        }
        DUE.is("lay(5) again", x.lay(5), 5);
        DUE.is("it lies", x.count(6), 5);
    }

    // "The swing is 320 less 3 for each hour that the spring lacks to 48, less the dirt, and less 20 in the poses 2 to 5"
    private static void swing() {
        for (int hours : new int[] {0, 1, 2, 47, 48}) {
            WatchPoses x = hours == 0 ? new WatchPoses() : Due.wound(hours);
            for (int p = 0; p < 6; p++) {
                DUE.is("swing in " + p + " with " + hours, x.pose(p, 1), 320 - 3 * (48 - hours) - (p < 2 ? 0 : 20));
            }
        }
        WatchPoses x = Due.dirty(100);
        DUE.is("swing with dirt 100 in pose 1", x.pose(1, 1), 220);
        DUE.is("swing with dirt 100 in pose 2", x.pose(2, 1), 200);
        // No run of calls brings it near to "at least 0": this is the least one.
        WatchPoses y = Due.dirty(58);
        DUE.is("hours until it is empty", y.pass(48), 48);
        DUE.is("least swing in pose 1", y.pose(1, 1), 116);
        DUE.is("least swing in pose 2", y.pose(2, 1), 96);
    }

    private static void goes(WatchPoses x, String when, int swing, int goes) {
        DUE.is(when + ": swing", x.pose(x.count(6), 1), swing);
        DUE.is(when + ": goes", x.count(7), goes);
        DUE.is(when + ": stopsIn where it lies is 0, if it stands", x.stopsIn(x.count(6)) > 0 ? 1 : 0, goes);
        DUE.is(when + ": pass(1)", x.pass(1), goes);
    }

    // "It goes, if there are hours left, and the swing is 120 or more."
    private static void goesAtItsEdges() {
        goes(new WatchPoses(), "no hours", 176, 0);
        WatchPoses x = Due.wound(1);
        goes(x, "the last hour", 179, 1);
        goes(x, "behind it", 176, 0);
        int[][] due = {{0, 57, 121, 1}, {0, 58, 120, 1}, {0, 59, 119, 0}, {1, 58, 120, 1}, {1, 59, 119, 0},
            {2, 37, 121, 1}, {2, 38, 120, 1}, {2, 39, 119, 0}, {5, 38, 120, 1}, {5, 39, 119, 0}};
        for (int[] row : due) {
            WatchPoses y = Due.dirty(row[1]);
            y.lay(row[0]);
            DUE.is("47 hours in pose " + row[0] + " with dirt " + row[1], y.pass(47), 47);
            goes(y, "pose " + row[0] + ", one hour left", row[2], row[3]);
        }
    }

    // "with a swing above 300 it is 600 more (it knocks)"
    private static void knocks() {
        for (int p = 0; p < 6; p++) {
            WatchPoses x = Due.wound(48);
            x.weigh(p, 0);
            DUE.is("full, pose " + p, x.pose(p, 2), p < 2 ? 10600 : 10000);
        }
        int[][] due = {{0, 5, 305, 600}, {1, 6, 301, 600}, {2, 6, 300, 0}, {0, 7, 299, 0}};
        for (int[] row : due) {
            WatchPoses x = Due.dirty(row[0]);
            x.weigh(1, 0);
            x.pass(row[1]);
            DUE.is("swing", x.pose(1, 1), row[2]);
            DUE.is("rate at swing " + row[2], x.pose(1, 2), 10000 + row[3]);
        }
    }

    // "unless the magnetism is above 50 (then the spring sticks, and it is 300 more, whatever the swing)"
    private static void sticks() {
        int[][] due = {{49, 98, 698}, {50, 100, 700}, {51, 402, 402}, {100, 500, 500}};
        for (int[] row : due) {
            WatchPoses x = Due.wound(48);
            Due.weighAll(x, 0, 0, 0, 0, 0, 0);
            x.magnetise(row[0]);
            DUE.is("swing 320, magnetism " + row[0], x.pose(0, 2), 10000 + row[2]);
            DUE.is("swing 300, magnetism " + row[0], x.pose(2, 2), 10000 + row[1]);
            x.pass(48);
            DUE.is("swing of an empty spring", x.pose(0, 2), 10000 + row[1]);
        }
    }

    // "The beat error in a pose is the stud, without its sign, ... and in the poses 2 to 5 2 more"
    private static void beatError() {
        WatchPoses x = new WatchPoses();
        for (int stud : new int[] {-50, -1, 0, 1, 50}) {
            x.adjust(0, stud);
            for (int p = 0; p < 6; p++) {
                DUE.is("beat error in " + p + ", stud " + stud, x.pose(p, 3), Math.abs(stud) + (p < 2 ? 0 : 2));
            }
        }
    }

    // pass: "1 to 99"; "When an hour passes, the hour becomes 1 more (from 0 on)"; "in how many of them it went"
    private static void pass() {
        int[][] due = {{0, 1, 0}, {0, 99, 0}, {1, 1, 1}, {1, 2, 1}, {48, 47, 47}, {48, 48, 48}, {48, 49, 48}, {48, 99, 48}};
        for (int[] row : due) {
            WatchPoses x = row[0] == 0 ? new WatchPoses() : Due.wound(row[0]);
            DUE.is("hour at first", x.count(0), 0);
            DUE.is("pass(" + row[1] + ") of " + row[0], x.pass(row[1]), row[2]);
            DUE.is("hour", x.count(0), row[1]);
            DUE.is("hours left", x.count(1), row[0] - row[2]);
            DUE.is("hours in which it went", x.count(15), row[2]);
            DUE.is("hours that it stood", x.count(9), row[1] - row[2]);
            DUE.allRefused(x, "pass", ARGUMENT, x::pass, 0, -1, 100, MIN, MAX);
        }
    }

    // "by the rate of this pose, as it was ahead of that": ahead of the spring's hour and of the dirt
    private static void errorByTheRateAhead() {
        WatchPoses x = Due.wound(42);
        x.weigh(0, 0);
        DUE.is("rate ahead of the hour", x.pose(0, 2), 10600);
        x.pass(1);
        DUE.is("error behind it", x.count(8), 1000025);
        DUE.is("rate behind it", x.pose(0, 2), 10000);
        WatchPoses y = Due.dirty(1);
        y.weigh(0, 0);
        y.pass(23);
        y.wind(17);
        int before = y.count(8);
        DUE.is("swing ahead of hour 48", y.pose(0, 1), 301);
        y.pass(1);
        DUE.is("the dirt is more", y.count(5), 2);
        DUE.is("the rate was that of dirt 1", y.count(8) - before, 25);
    }

    // "for each 24 hours in which it went the dirt becomes 1 more"
    private static void dirtOfEach24Hours() {
        int[][] due = {{1, 0}, {23, 0}, {24, 1}, {25, 1}, {47, 1}, {48, 2}};
        for (int[] row : due) {
            WatchPoses x = Due.wound(48);
            x.pass(row[0]);
            DUE.is("dirt behind " + row[0] + " hours", x.count(5), row[1]);
        }
        WatchPoses x = Due.wound(23);
        x.pass(99);
        DUE.is("hours that it stood do not count", x.count(5), 0);
        x.wind(2);
        x.lay(4);
        x.pass(1);
        DUE.is("hours ahead of the stand do", x.count(5), 1);
        x.pass(1);
        DUE.is("dirt behind 25 hours", x.count(5), 1);
    }

    // "Otherwise it stands, and stood hours are counted.": also with hours left
    private static void standsWithHoursLeft() {
        WatchPoses x = Due.dirty(59);
        x.pass(47);
        int error = x.count(8);
        int stood = x.count(9);
        int went = x.count(15);
        DUE.is("pass(99)", x.pass(99), 0);
        DUE.is("hours left", x.count(1), 1);
        DUE.is("error", x.count(8), error);
        DUE.is("hours that it stood", x.count(9), stood + 99);
        DUE.is("hours in which it went", x.count(15), went);
        DUE.is("dirt", x.count(5), 60);
    }

    public static void main(String[] args) {
        weightIsDividedDown();
        hourlyErrorIsDividedDown();
        dirtIsDividedDown();
        thereAreSixPoses();
        weights();
        regulatorAndStud();
        hoursLeft();
        magnetism();
        dirt();
        lies();
        swing();
        goesAtItsEdges();
        knocks();
        sticks();
        beatError();
        pass();
        errorByTheRateAhead();
        dirtOfEach24Hours();
        standsWithHoursLeft();
        DUE.end("EdgeWatchTest");
    }
}
