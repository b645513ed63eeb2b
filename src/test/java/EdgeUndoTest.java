import java.util.ArrayList;
import java.util.List;

// The boundary cases of "Terms: Undo, the snapshot" and "Exceptions" and of promises 18 to
// 20: above each test stands the sentence of the document that it is of.
public final class EdgeUndoTest {
    private static final Due DUE = new Due();
    private static final Class<IndexOutOfBoundsException> INDEX = IndexOutOfBoundsException.class;
    private static final Class<IllegalArgumentException> ARGUMENT = IllegalArgumentException.class;
    private static final Class<IllegalStateException> STATE = IllegalStateException.class;
    private static final int MIN = Integer.MIN_VALUE;
    private static final int MAX = Integer.MAX_VALUE;

    private interface Call {
        void on(WatchPoses x);
    }

    private static void typeAndObey(WatchPoses x, String orders) {
        Due.type(x, orders);
        x.obey();
    }

    /** Nothing of it is as at first: it has readings, a stop, a snapshot, dirt, and stood. */
    private static WatchPoses used() {
        WatchPoses x = Due.wound(30);
        x.lay(3);
        x.pass(40);
        x.wind(20);
        x.keep();
        x.weigh(4, 21);
        x.adjust(13, -17);
        typeAndObey(x, "r2;r5;+3;r1;+48;r0");
        x.wind(9);
        x.magnetise(7);
        x.set(2, 99);
        return x;
    }

    private static Call[] undoables() {
        return new Call[] {
            x -> x.wind(3), x -> x.weigh(1, 5), x -> x.adjust(1, 2), x -> x.magnetise(3), x -> x.demagnetise(),
            x -> x.clean(), x -> x.lay(5), x -> x.pass(30), x -> x.read(2), x -> x.renew(), x -> x.set(1, 99),
            x -> typeAndObey(x, "w9;d;r3;g-4;+99;r0"), x -> x.restore()};
    }

    private static void isWhollyUndone(WatchPoses x, String call, Call run) {
        int states = x.count(20);
        while (states > 5) {
            states = x.undo();
        }
        x.clearBuffer();
        long before = x.digest();
        run.on(x);
        DUE.is(call + ": saved states", x.count(20), states + 1);
        DUE.is(call + ": undo()", x.undo(), states);
        DUE.is(call + ": digest behind undo()", x.digest(), before);
    }

    // "Each method that is marked "undoable" and does not throw an exception saves the state from before it"
    private static void eachUndoableIsUndone() {
        Call[] calls = undoables();
        for (int i = 0; i < calls.length; i++) {
            WatchPoses x = used();
            long before = x.digest();
            calls[i].on(x);
            DUE.holds("undoable " + i + " does change something", x.digest() != before);
            isWhollyUndone(used(), "undoable " + i, calls[i]);
        }
    }

    // "(also if it changes nothing)"
    private static void eachUndoableThatChangesNothing() {
        Call[] calls = {x -> x.wind(1), x -> x.weigh(0, 2), x -> x.adjust(0, 10), x -> x.magnetise(1), x -> x.clean(),
            x -> x.lay(0), x -> x.renew(), x -> x.set(0, 60), x -> x.set(3, 60), x -> x.restore(), x -> typeAndObey(x, "r0")};
        for (int i = 0; i < calls.length; i++) {
            WatchPoses x = Due.wound(48);
            x.magnetise(100);
            typeAndObey(x, "r0");
            x.keep();
            long before = x.digest();
            calls[i].on(x);
            DUE.is("a state is saved, " + i, x.count(20), 4);
            DUE.is("the paper is empty still, " + i, x.count(11), 0);
            DUE.is("undo(), " + i, x.undo(), 3);
            DUE.is("digest behind it, " + i, x.digest(), before);
        }
        isWhollyUndone(new WatchPoses(), "demagnetise() of nothing", x -> x.demagnetise());
        isWhollyUndone(new WatchPoses(), "pass(1) that stands", x -> x.pass(1));
        isWhollyUndone(new WatchPoses(), "obey() of d", x -> typeAndObey(x, "d"));
        isWhollyUndone(new WatchPoses(), "obey() of g0;p0", x -> typeAndObey(x, "g0;p0"));
    }

    // Methods that are not marked so save nothing
    private static void othersSaveNothing() {
        Call[] calls = {x -> x.append('d'), x -> x.clearBuffer(), x -> x.firstError(), x -> x.stopped(0), x -> x.keep(),
            x -> x.pose(0, 0), x -> x.reading(0, 0), x -> x.count(0), x -> x.ifWorn(0, 1, 2, 0), x -> x.bestRegulator(),
            x -> x.stopsIn(0), x -> x.nightPose(), x -> x.going(), x -> x.digest()};
        WatchPoses x = Due.wound(9);
        x.lay(4);
        for (int i = 0; i < calls.length; i++) {
            calls[i].on(x);
            DUE.is("saved states behind " + i, x.count(20), 2);
        }
        x.undo();
        DUE.is("the pose is undone first", x.count(6), 0);
        DUE.is("undo()", x.undo(), 0);
        DUE.is("the spring is undone then", x.count(1), 0);
    }

    private static List<Integer> allNumbers(WatchPoses x) {
        List<Integer> numbers = new ArrayList<>();
        for (int what = 0; what < 20; what++) {
            numbers.add(x.count(what));
        }
        for (int p = 0; p < 6; p++) {
            numbers.add(x.pose(p, 0));
        }
        for (int place = 0; place < 4; place++) {
            for (int what = 0; what < 5; what++) {
                numbers.add(x.reading(place, what));
            }
        }
        for (int what = 0; what < 3; what++) {
            numbers.add(x.stopped(what));
        }
        return numbers;
    }

    // "all, also the paper, what is counted so far and the latest stop": restore() changes nearly all of it at once
    private static void undoOfAllThatThereIs() {
        WatchPoses x = used();
        List<Integer> before = allNumbers(x);
        x.restore();
        DUE.is("hour of the snapshot", x.count(0), 40);
        DUE.is("its paper", x.count(10), 0);
        DUE.is("readings so far", x.count(11), 0);
        DUE.is("hours that it stood so far", x.count(9), 10);
        DUE.is("no stop", x.stopped(0), -1);
        x.undo();
        DUE.holds("all numbers are as before: " + before, allNumbers(x).equals(before));
        DUE.is("the stop is back", x.stopped(0), 5);
        DUE.is("the paper is back", x.count(10), 3);
        DUE.is("hours that it stood so far are back", x.count(9), 41);
    }

    // "also the paper": its readings themselves, when others have been printed in their places
    private static void paperIsBroughtBack() {
        WatchPoses x = Due.wound(20);
        Due.readAll(x);
        x.renew();
        x.read(5);
        DUE.is("a new reading in the first place", x.reading(0, 1), 5);
        x.undo();
        x.undo();
        for (int place = 0; place < 6; place++) {
            DUE.is("pose of reading " + place, x.reading(place, 1), place);
        }
        x.keep();
        x.restore();
        x.renew();
        x.read(4);
        x.restore();
        DUE.is("pose of the first reading of the snapshot", x.reading(0, 1), 0);
        DUE.is("rate of the last one", x.reading(5, 2), 9994);
        DUE.is("the paper has no more", x.reading(6, 1), -1);
    }

    // "but the buffer, the saved states and the snapshot"
    private static void undoLeavesBufferAndSnapshot() {
        WatchPoses x = Due.wound(5);
        x.keep();
        x.wind(3);
        x.keep();
        Due.type(x, "w9;");
        x.undo();
        DUE.is("hours left", x.count(1), 5);
        DUE.is("the buffer stays", x.append('d'), 4);
        x.restore();
        DUE.is("the snapshot stays the later one", x.count(1), 8);
        DUE.is("restore leaves the buffer", x.append(';'), 5);
        x.undo();
        typeAndObey(x, "w1");
        x.undo();
        DUE.is("undo of obey() does not bring the buffer", x.clearBuffer(), 0);
        WatchPoses y = new WatchPoses();
        y.wind(4);
        y.keep();
        y.undo();
        DUE.is("a snapshot from behind the saved state", y.restore(), 0);
        DUE.is("it is there still", y.count(1), 4);
    }

    // "At most 6 states are saved; the oldest one is dropped first."
    private static void sixStatesAtMost() {
        for (int calls = 1; calls <= 20; calls++) {
            WatchPoses x = new WatchPoses();
            for (int i = 1; i <= calls; i++) {
                x.wind(1);
                DUE.is("saved states behind " + i, x.count(20), Math.min(6, i));
            }
            int states = Math.min(6, calls);
            for (int back = 1; back <= states; back++) {
                DUE.is("undo()", x.undo(), states - back);
                DUE.is("hours left", x.count(1), calls - back);
            }
            DUE.refusedState(x, "undo() without a state", x::undo);
            DUE.is("hours left stay", x.count(1), Math.max(0, calls - 6));
        }
    }

    // The same with calls to and fro, far beyond six: whatever holds the states wraps around
    private static void statesToAndFro() {
        for (int pattern = 0; pattern < 64; pattern++) {
            WatchPoses x = new WatchPoses();
            List<Integer> saved = new ArrayList<>();
            int hour = 0;
            for (int step = 0; step < 120; step++) {
                boolean back = (pattern >> step % 6 & 1) == 1 && step % 7 != 3;
                if (!back) {
                    saved.add(hour);
                    if (saved.size() > 6) {
                        saved.remove(0);
                    }
                    hour += 1 + step % 5;
                    x.pass(1 + step % 5);
                } else if (!saved.isEmpty()) {
                    hour = saved.remove(saved.size() - 1);
                    DUE.is("undo() at step " + step + " of pattern " + pattern, x.undo(), saved.size());
                } else {
                    DUE.refusedState(x, "undo() at step " + step + " of pattern " + pattern, x::undo);
                }
                DUE.is("hour", x.count(0), hour);
            }
        }
    }

    // undo: "IllegalStateException if there is none"; restore: "if there is no snapshot"
    private static void nothingToBringBack() {
        WatchPoses x = new WatchPoses();
        DUE.refusedState(x, "undo() of a new object", x::undo);
        DUE.refusedState(x, "restore() of a new object", x::restore);
        x.wind(1);
        DUE.refusedState(x, "restore() without a snapshot", x::restore);
        DUE.is("undo()", x.undo(), 0);
        DUE.refusedState(x, "undo() behind the last one", x::undo);
        x.keep();
        DUE.refusedState(x, "undo(): a snapshot is no saved state", x::undo);
        DUE.is("restore() of the snapshot", x.restore(), 0);
    }

    // keep: "Takes a snapshot, in place of the one before." "Returns the hour."
    private static void keepInPlaceOfTheOneBefore() {
        WatchPoses x = new WatchPoses();
        DUE.is("keep() at first", x.keep(), 0);
        x.pass(99);
        DUE.is("keep() at 99", x.keep(), 99);
        x.pass(1);
        DUE.is("restore()", x.restore(), 99);
        DUE.is("hour", x.count(0), 99);
        x.undo();
        DUE.is("hour behind undo()", x.count(0), 100);
        x.undo();
        x.undo();
        DUE.is("hour behind all undo()", x.count(0), 0);
        DUE.is("keep() at 0 again", x.keep(), 0);
        x.pass(7);
        DUE.is("restore() to 0", x.restore(), 0);
    }

    // restore: "Restores the state of the snapshot, which stays. Undoable."
    private static void snapshotStaysWhateverIsDone() {
        WatchPoses x = used();
        x.lay(2);
        x.keep();
        long kept = x.digest();
        DUE.is("six saved states", x.count(20), 6);
        for (Call call : undoables()) {
            call.on(x);
            x.restore();
            DUE.is("digest of the snapshot", x.digest(), kept);
        }
        for (int left = 5; left >= 0; left--) {
            DUE.is("restore() was saved each time", x.undo(), left);
        }
        x.restore();
        DUE.is("one saved state", x.count(20), 1);
        for (int i = 0; i < 5; i++) {
            x.restore();
        }
        DUE.is("digest of the snapshot at last", x.digest(), kept);
    }

    private static void refusedOnes(WatchPoses x) {
        DUE.allRefused(x, "wind", ARGUMENT, x::wind, 0, 49, -1, MIN, MAX);
        DUE.allRefused(x, "weigh, pose", INDEX, p -> x.weigh(p, 0), -1, 6, MIN, MAX);
        DUE.allRefused(x, "weigh, weight", ARGUMENT, w -> x.weigh(0, w), -61, 61, MIN, MAX);
        DUE.allRefused(x, "adjust, regulator", ARGUMENT, r -> x.adjust(r, 0), -100, 100, MIN, MAX);
        DUE.allRefused(x, "adjust, stud", ARGUMENT, s -> x.adjust(0, s), -51, 51, MIN, MAX);
        DUE.allRefused(x, "magnetise", ARGUMENT, x::magnetise, 0, 101, -1, MIN, MAX);
        DUE.allRefused(x, "lay", INDEX, x::lay, -1, 6, MIN, MAX);
        DUE.allRefused(x, "pass", ARGUMENT, x::pass, 0, 100, -1, MIN, MAX);
        DUE.allRefused(x, "read", INDEX, x::read, -1, 6, MIN, MAX);
        DUE.allRefused(x, "read", STATE, x::read, 0, 1, 2, 3, 4, 5);
        DUE.allRefused(x, "set, setting", INDEX, s -> x.set(s, 50), -1, 4, MIN, MAX);
        DUE.allRefused(x, "set, value", ARGUMENT, s -> x.set(s, -1), 0, 1, 2, 3);
        DUE.allRefused(x, "append", ARGUMENT, x::append, 32, 127, MIN, MAX);
        DUE.refusedArgument(x, "obey", x::obey);
    }

    // "A call that throws an exception changes nothing.": also not what undo and restore bring back
    private static void refusedCallsChangeNothing() {
        WatchPoses x = used();
        WatchPoses twin = used();
        for (WatchPoses each : new WatchPoses[] {x, twin}) {
            each.magnetise(100);
            Due.type(each, "w9;p");
        }
        refusedOnes(x);
        for (int left = 5; left >= 0; left--) {
            DUE.is("digest with " + (left + 1) + " saved states", x.digest(), twin.digest());
            DUE.is("undo()", x.undo(), left);
            twin.undo();
        }
        DUE.is("digest without saved states", x.digest(), twin.digest());
        DUE.is("restore()", x.restore(), twin.restore());
        DUE.is("digest of the snapshot", x.digest(), twin.digest());
    }

    // "If several exceptions apply, the one that is named first in the throws clause is thrown."
    private static void firstNamedExceptionIsThrown() {
        WatchPoses x = new WatchPoses();
        DUE.allRefused(x, "weigh, both wrong", INDEX, v -> x.weigh(v, v), -61, 61, MIN, MAX);
        DUE.allRefused(x, "read of a watch without hours", INDEX, x::read, -1, 6, MIN, MAX);
        DUE.allRefused(x, "set, both wrong", INDEX, v -> x.set(v, v), -1, 901, MIN, MAX);
        DUE.allRefused(x, "pose, both wrong", INDEX, v -> x.pose(v, v), -1, 8, MIN, MAX);
        DUE.allRefused(x, "ifWorn, all wrong", INDEX, v -> x.ifWorn(v, v, v, v), -1, 6, MIN, MAX);
        DUE.allRefused(x, "ifWorn, first and what", INDEX, v -> x.ifWorn(v, 0, 0, 2), -1, 6, MIN, MAX);
        DUE.allRefused(x, "ifWorn, second and what", INDEX, v -> x.ifWorn(0, v, 0, -1), -1, 6, MIN, MAX);
        DUE.allRefused(x, "ifWorn, third and what", INDEX, v -> x.ifWorn(0, 0, v, MAX), -1, 6, MIN, MAX);
        Due.type(x, "d".repeat(60));
        DUE.allRefused(x, "append of no code to a full buffer", ARGUMENT, x::append, 32, 127, MIN, MAX);
    }

    // "An object is used for at most 512 calls": the last of them holds as well
    private static void lastOfAllCalls() {
        WatchPoses x = new WatchPoses();
        for (int call = 1; call < 512; call++) {
            x.pass(99);
        }
        DUE.is("hour at call 512", x.count(0), 511 * 99);
        WatchPoses y = new WatchPoses();
        for (int pair = 0; pair < 255; pair++) {
            y.keep();
            y.restore();
        }
        DUE.is("undo() at call 511", y.undo(), 5);
        DUE.is("undo() at call 512", y.undo(), 4);
    }

    public static void main(String[] args) {
        eachUndoableIsUndone();
        eachUndoableThatChangesNothing();
        othersSaveNothing();
        undoOfAllThatThereIs();
        paperIsBroughtBack();
        undoLeavesBufferAndSnapshot();
        sixStatesAtMost();
        statesToAndFro();
        nothingToBringBack();
        keepInPlaceOfTheOneBefore();
        snapshotStaysWhateverIsDone();
        refusedCallsChangeNothing();
        firstNamedExceptionIsThrown();
        lastOfAllCalls();
        DUE.end("EdgeUndoTest");
    }
}
