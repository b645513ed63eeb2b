// Promise 29: the list of values, put together from the looks of the object itself.
public final class DigestTest {
    private static final Due DUE = new Due();
    private static long hash;

    private static void add(long value) {
        hash = 31 * hash + value;
    }

    private static long byLooks(WatchPoses x, String buffer) {
        hash = 3803;
        for (int what = 0; what <= 20; what++) {
            add(x.count(what));
        }
        for (int p = 0; p <= 5; p++) {
            for (int what = 0; what <= 7; what++) {
                add(x.pose(p, what));
            }
            add(x.stopsIn(p));
        }
        for (int r = 0; r < x.count(10); r++) {
            for (int what = 0; what <= 4; what++) {
                add(x.reading(r, what));
            }
        }
        add(x.stopped(0));
        add(x.stopped(1));
        add(x.stopped(2));
        add(x.ifWorn(0, 2, 4, 0));
        add(x.ifWorn(0, 2, 4, 1));
        add(x.ifWorn(1, 1, 5, 0));
        add(x.ifWorn(1, 1, 5, 1));
        add(x.bestRegulator());
        add(x.nightPose());
        add(Double.doubleToLongBits(x.going()));
        add(buffer.length());
        for (int i = 0; i < buffer.length(); i++) {
            add(buffer.charAt(i));
        }
        return hash;
    }

    private static void same(WatchPoses x, String when, String buffer) {
        DUE.is("digest " + when, x.digest(), byLooks(x, buffer));
        DUE.is("digest " + when + " again", x.digest(), hash);
    }

    // A new object for every few looks at all: an object serves for 512 calls.
    private static void ofReadings() {
        WatchPoses x = new WatchPoses();
        same(x, "of a new object", "");
        x.pass(3);
        same(x, "of a share of 0", "");
        x.wind(48);
        x.lay(3);
        x.read(5);
        x.read(2);
        same(x, "with two readings", "");
    }

    private static void ofBufferAndStop() {
        WatchPoses x = new WatchPoses();
        x.wind(48);
        Due.type(x, "p1;r0;~");
        same(x, "with a buffer", "p1;r0;~");
        x.clearBuffer();
        x.set(0, 11);
        Due.type(x, "r0;r1;d;r3");
        x.obey();
        same(x, "with a stop", "");
        x.pass(99);
        same(x, "of a watch that ran down", "");
    }

    private static void ofManyShares() {
        for (int stood = 0; stood < 60; stood++) {
            WatchPoses x = new WatchPoses();
            for (int i = 0; i < stood; i++) {
                x.pass(1 + i % 7 * 16);
            }
            x.wind(1 + stood % 48);
            x.pass(1 + stood % 5);
            same(x, "of a share with " + stood + " waits", "");
        }
    }

    /** Shares of one hour in very many have the least exponents. */
    private static void ofSmallShares() {
        for (int waits = 1; waits <= 300; waits += 23) {
            WatchPoses x = new WatchPoses();
            x.wind(1);
            for (int i = 0; i < waits; i++) {
                x.pass(99);
            }
            same(x, "of one hour in " + x.count(0), "");
        }
    }

    /** The list of the document for a new object, number by number. */
    private static void ofANewObjectByHand() {
        long[][] due = {{0, 0, 100, 110, 0, 0, 0, 0, 1000000, 0, 0, 0, -1, -1, 6, 0, 60, 40, 24, 60, 0},
            {102, 176, 10003, 10, 1, -1, -1, 0, 0}, {98, 176, 9996, 10, 1, -1, -1, 0, 0},
            {108, 156, 10016, 12, 1, -1, -1, 0, 0}, {92, 156, 9983, 12, 1, -1, -1, 0, 0},
            {104, 156, 10008, 12, 1, -1, -1, 0, 0}, {96, 156, 9991, 12, 1, -1, -1, 0, 0},
            {-1, -1, -1}, {100000, 0, 100000, 0}, {100, 0, 0x3FF0000000000000L, 0}};
        hash = 3803;
        for (long[] row : due) {
            for (long value : row) {
                add(value);
            }
        }
        DUE.is("digest of a new object by hand", new WatchPoses().digest(), hash);
    }

    private static void ofFullPaperAndBuffer() {
        WatchPoses x = Due.wound(48);
        for (int i = 0; i < 40; i++) {
            x.read(i % 6);
        }
        String buffer = "d;".repeat(29) + "!~";
        Due.type(x, buffer);
        same(x, "of a full paper and a full buffer", buffer);
    }

    /** Each pose has another weight here, so each that is worn in ifWorn counts. */
    private static void ofGreatWeights() {
        for (int turn = 0; turn < 6; turn++) {
            WatchPoses x = Due.wound(30);
            for (int p = 0; p < 6; p++) {
                x.weigh(p, -60 + 24 * ((p + turn) % 6));
            }
            same(x, "of great weights, turn " + turn, "");
        }
    }

    public static void main(String[] args) {
        ofANewObjectByHand();
        ofFullPaperAndBuffer();
        ofGreatWeights();
        ofReadings();
        ofBufferAndStop();
        ofManyShares();
        ofSmallShares();
        DUE.end("DigestTest");
    }
}
