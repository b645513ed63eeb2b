// Promises 18 to 20, and the term "Undo and the snapshot".
public final class UndoTest {
    private static final Due DUE = new Due();

    // Promise 18
    private static void undo() {
        WatchPoses x = new WatchPoses();
        long[] behind = new long[9];
        for (int i = 0; i < 9; i++) {
            x.wind(i + 1);
            behind[i] = x.count(1);
            DUE.is("saved states", x.count(20), Math.min(6, i + 1));
        }
        for (int left = 5; left >= 0; left--) {
            DUE.is("undo()", x.undo(), left);
            DUE.is("hours left", x.count(1), behind[left + 2]);
        }
        DUE.refusedState(x, "undo() of a state that was dropped", x::undo);
        x.wind(1);
        DUE.is("undo() behind a new call", x.undo(), 0);
        DUE.is("hours left as before it", x.count(1), behind[2]);
    }

    private static void undoBringsAllBack() {
        WatchPoses x = new WatchPoses();
        x.wind(20);
        x.read(1);
        Due.type(x, "r0;r2");
        x.magnetise(41);
        x.obey();
        long before = x.digest();
        int states = x.count(20);
        x.renew();
        Due.type(x, "w5;g9;+7;d;r5;r1;+1;r0");
        x.obey();
        x.undo();
        DUE.is("saved states", x.undo(), states);
        DUE.is("digest", x.digest(), before);
    }

    private static void undoLeavesBufferAndSnapshot() {
        WatchPoses x = new WatchPoses();
        x.wind(7);
        x.keep();
        x.pass(3);
        Due.type(x, "w1");
        x.undo();
        DUE.is("the buffer stays", x.append(';'), 3);
        x.undo();
        DUE.is("hours left", x.count(1), 0);
        DUE.is("the snapshot stays", x.restore(), 0);
        DUE.is("hours left in the snapshot", x.count(1), 7);
    }

    // Promise 19
    private static void keep() {
        WatchPoses x = new WatchPoses();
        DUE.is("keep()", x.keep(), 0);
        DUE.is("it is not undoable", x.count(20), 0);
        x.wind(20);
        x.pass(5);
        x.read(3);
        DUE.is("keep() in place of the one before", x.keep(), 5);
        x.pass(1);
        x.renew();
        DUE.is("restore()", x.restore(), 5);
        DUE.is("readings", x.count(10), 1);
        DUE.is("its pose", x.reading(0, 1), 3);
    }

    // Promise 20
    private static void restore() {
        WatchPoses x = new WatchPoses();
        DUE.refusedState(x, "restore() without a snapshot", x::restore);
        x.wind(20);
        x.read(1);
        x.keep();
        long kept = x.digest();
        x.pass(9);
        x.weigh(3, 33);
        x.set(1, 0);
        x.read(4);
        long before = x.digest();
        DUE.is("restore()", x.restore(), 0);
        DUE.is("it is saved", x.count(20), 6);
        DUE.is("undo() of restore()", x.undo(), 5);
        DUE.is("hour as before restore()", x.count(0), 9);
        DUE.is("weight as before restore()", x.pose(3, 0), 133);
        for (int left = 4; left >= 2; left--) {
            DUE.is("undo()", x.undo(), left);
        }
        DUE.is("hour", x.count(0), 9);
        DUE.is("undo()", x.undo(), 1);
        DUE.is("hours left", x.count(1), 20);
        DUE.is("restore() again, the snapshot stays", x.restore(), 0);
        DUE.is("state of the snapshot", x.digest(), kept);
        x.pass(40);
        DUE.is("restore() once more", x.restore(), 0);
        DUE.is("hours left of the snapshot", x.count(1), 20);
        DUE.holds("the state did change", before != kept);
    }

    private static void restoreLeavesBuffer() {
        WatchPoses x = new WatchPoses();
        Due.type(x, "w9");
        x.keep();
        x.append(';');
        x.restore();
        DUE.is("the buffer stays", x.clearBuffer(), 3);
        DUE.undoable(x, "restore()", x::restore);
    }

    private static void restoreBringsTheStop() {
        WatchPoses x = new WatchPoses();
        Due.type(x, "d;r4");
        x.obey();
        x.keep();
        Due.type(x, "d");
        x.obey();
        DUE.is("no stop", x.stopped(0), -1);
        x.restore();
        DUE.is("the stop of the snapshot", x.stopped(0), 1);
        x.undo();
        DUE.is("no stop again", x.stopped(0), -1);
    }

    public static void main(String[] args) {
        undo();
        undoBringsAllBack();
        undoLeavesBufferAndSnapshot();
        keep();
        restore();
        restoreLeavesBuffer();
        restoreBringsTheStop();
        DUE.end("UndoTest");
    }
}
