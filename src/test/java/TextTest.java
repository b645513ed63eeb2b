// Promises 13 to 17, and the term "Input text".
public final class TextTest {
    private static final Due DUE = new Due();
    private static final int LENGTH_MOST = 60;

    private static WatchPoses typed(String orders) {
        WatchPoses x = new WatchPoses();
        Due.type(x, orders);
        return x;
    }

    // Promise 13
    private static void append() {
        WatchPoses x = new WatchPoses();
        DUE.is("append(33)", x.append(33), 1);
        DUE.is("append(126)", x.append(126), 2);
        for (int code : new int[] {32, 127, 0, -1, Integer.MIN_VALUE, Integer.MAX_VALUE}) {
            DUE.refusedArgument(x, "append(" + code + ")", () -> x.append(code));
        }
        DUE.is("append is not undoable", x.count(20), 0);
        for (int length = 3; length <= LENGTH_MOST; length++) {
            DUE.is("append to " + length, x.append('d'), length);
        }
        DUE.refusedState(x, "append to a full buffer", () -> x.append('d'));
        DUE.refusedArgument(x, "append(32) to a full buffer", () -> x.append(32));
    }

    // Promise 14
    private static void clearBuffer() {
        WatchPoses x = typed("w48");
        DUE.is("clearBuffer()", x.clearBuffer(), 3);
        DUE.is("clearBuffer() again", x.clearBuffer(), 0);
        DUE.is("append then", x.append('d'), 1);
        DUE.is("clearBuffer is not undoable", x.count(20), 0);
    }

    // Promise 15
    private static void errorAt(String orders, int place) {
        WatchPoses x = typed(orders);
        long before = x.digest();
        DUE.is("firstError of " + orders, x.firstError(), place);
        DUE.is("digest behind firstError of " + orders, x.digest(), before);
        DUE.is("firstError of " + orders + " again", x.firstError(), place);
    }

    private static void firstError() {
        String[] right = {"", "w", "w1", "w4", "w5", "w9", "w10", "w39", "w48", "p", "p0", "p5", "r0", "r5",
            "g", "g-", "g0", "g1", "g9", "g10", "g99", "g-1", "g-9", "g-99", "d", "+", "+1", "+9", "+99",
            "d;", "d;d", "w48;p0;r5;g-99;d;+99", "g0;g0;"};
        for (String orders : right) {
            errorAt(orders, orders.length());
        }
        // The last character is the wrong one.
        String[] wrong = {"x", "W", "1", ";", "-", "~", "!", "/", ":", "w0", "w;", "w-", "ww", "w49", "w50", "w100",
            "w488", "w1d", "p6", "p9", "p-", "p;", "p00", "p55", "r6", "r-", "r;", "r05", "r0-", "gg", "g;", "g--",
            "g-0", "g-;", "g00", "g01", "g0-", "g1-", "g100", "g-100", "g999", "d0", "d1", "dd", "d-", "d9",
            "+0", "+-", "+;", "++", "+100", "+990", "d;;", "d;1", "w1/", "w1:", "w/", "w:"};
        for (String orders : wrong) {
            errorAt(orders, orders.length() - 1);
        }
        errorAt("w0;p9", 1);
        errorAt("d;p6;;x", 3);
        errorAt("d;".repeat(LENGTH_MOST / 2), LENGTH_MOST);
        errorAt("d;".repeat(LENGTH_MOST / 2 - 1) + "d0", LENGTH_MOST - 1);
    }

    // Promise 16
    private static void obeyRefuses() {
        String[] incomplete = {"", "w", "p", "r", "g", "g-", "+", "d;", "d;w", "w49", "x", "d;;d", "w0", "g00",
            "d;".repeat(LENGTH_MOST / 2)};
        for (String orders : incomplete) {
            WatchPoses x = typed(orders);
            DUE.refusedArgument(x, "obey of " + orders, x::obey);
            DUE.is("the buffer stays", x.clearBuffer(), orders.length());
            DUE.is("nothing is saved", x.count(20), 0);
        }
    }

    private static void obeyDoesAllKinds() {
        WatchPoses x = typed("w20;p5;g-99;+3;r2");
        x.adjust(4, 33);
        x.magnetise(10);
        DUE.is("obey()", x.obey(), 5);
        DUE.is("the buffer is cleared", x.clearBuffer(), 0);
        DUE.is("hours left", x.count(1), 17);
        DUE.is("hour", x.count(0), 3);
        DUE.is("regulator", x.count(2), 1);
        DUE.is("stud stays", x.count(3), 133);
        DUE.is("it lies as for the reading", x.count(6), 2);
        DUE.is("reading", x.reading(0, 1), 2);
        DUE.is("readings so far", x.count(11), 1);
        DUE.is("magnetism stays", x.count(4), 10);
        DUE.is("one saved state for all", x.count(20), 3);
        DUE.is("no stop", x.stopped(1), -1);
        Due.type(x, "d");
        DUE.is("obey() of d", x.obey(), 1);
        DUE.is("magnetism", x.count(4), 0);
        Due.type(x, "g7;w48;p3");
        DUE.is("obey() of g7;w48;p3", x.obey(), 3);
        DUE.is("regulator 7", x.count(2), 107);
        DUE.is("hours left are at most 48", x.count(1), 48);
        DUE.is("it lies", x.count(6), 3);
        Due.type(x, "g0;+99");
        DUE.is("obey() of g0;+99", x.obey(), 2);
        DUE.is("regulator 0", x.count(2), 100);
        DUE.is("hours that it stood", x.count(9), 51);
    }

    private static void obeyDoesManyParts() {
        WatchPoses x = typed("d;".repeat(29) + "d");
        DUE.is("obey() of 30 parts", x.obey(), 30);
        Due.type(x, "w48;" + "r0;".repeat(18) + "r0");
        DUE.is("obey() of 60 characters", x.obey(), 20);
        DUE.is("readings", x.count(10), 19);
    }

    private static void obeyIsUndoneAsOneCall() {
        WatchPoses x = typed("w20;r0;g5;+9;r3");
        long before = x.digest();
        x.obey();
        DUE.is("undo()", x.undo(), 0);
        DUE.is("the buffer is not brought back", x.clearBuffer(), 0);
        Due.type(x, "w20;r0;g5;+9;r3");
        DUE.is("all else is", x.digest(), before);
        x.clearBuffer();
        Due.type(x, "r0");
        DUE.is("obey() that does nothing", x.obey(), 0);
        DUE.is("is undoable too", x.count(20), 1);
    }

    // Promise 17
    private static void stopIs(WatchPoses x, String when, int part, int reason, int inPose) {
        DUE.is(when + ": the part", x.stopped(0), part);
        DUE.is(when + ": the reason", x.stopped(1), reason);
        DUE.is(when + ": the pose", x.stopped(2), inPose);
    }

    private static void stopped() {
        WatchPoses x = typed("r4;w9");
        stopIs(x, "new", -1, -1, -1);
        DUE.is("obey() of r4;w9", x.obey(), 0);
        stopIs(x, "no hours", 0, 1, 4);
        DUE.is("what is behind the stop is not done", x.count(1), 0);
        DUE.is("it is not laid so", x.count(6), 0);
        DUE.is("the buffer is cleared", x.clearBuffer(), 0);
        Due.type(x, "w9;d;r0;g9;r5;+9;r1;d");
        DUE.is("obey() up to the second stop", x.obey(), 6);
        stopIs(x, "no hours again", 6, 1, 1);
        DUE.is("readings that were made", x.count(10), 2);
        DUE.is("it lies as for the last one", x.count(6), 5);
        DUE.refusedState(x, "a read that throws", () -> x.read(0));
        stopIs(x, "the stop stays", 6, 1, 1);
        Due.type(x, "x");
        DUE.refusedArgument(x, "an obey that throws", x::obey);
        stopIs(x, "the stop stays still", 6, 1, 1);
        x.clearBuffer();
        x.wind(20);
        stopIs(x, "other calls leave it", 6, 1, 1);
        x.adjust(0, 50);
        x.set(0, 51);
        Due.type(x, "r0;r2");
        DUE.is("obey() with a beat error", x.obey(), 1);
        stopIs(x, "beat error", 1, 3, 2);
        x.magnetise(41);
        Due.type(x, "r0;r2");
        DUE.is("obey() with magnetism", x.obey(), 0);
        stopIs(x, "magnetism", 0, 4, 0);
        Due.type(x, "d;r0");
        DUE.is("obey() that does all", x.obey(), 2);
        stopIs(x, "none then", -1, -1, -1);
        x.undo();
        stopIs(x, "undo brings it back", 0, 4, 0);
        x.undo();
        stopIs(x, "and the one before", 1, 3, 2);
        DUE.refusedArgument(x, "stopped(3)", () -> x.stopped(3));
        DUE.refusedArgument(x, "stopped(-1)", () -> x.stopped(-1));
    }

    private static void stopsForSwingAndPaper() {
        WatchPoses x = Due.dirty(60);
        x.pass(47);
        DUE.is("an hour is left", x.count(1) > 0 ? 1 : 0, 1);
        Due.type(x, "p1;r3");
        DUE.is("obey() with a small swing", x.obey(), 1);
        stopIs(x, "swing", 1, 2, 3);
        WatchPoses y = new WatchPoses();
        y.wind(9);
        for (int i = 0; i < 39; i++) {
            y.read(2);
        }
        Due.type(y, "r1;r5;w9");
        DUE.is("obey() with a full paper", y.obey(), 1);
        stopIs(y, "paper", 1, 5, 5);
    }

    public static void main(String[] args) {
        append();
        clearBuffer();
        firstError();
        obeyRefuses();
        obeyDoesAllKinds();
        obeyDoesManyParts();
        obeyIsUndoneAsOneCall();
        stopped();
        stopsForSwingAndPaper();
        DUE.end("TextTest");
    }
}
