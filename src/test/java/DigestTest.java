// Promise 29: the list of values, put together from the looks of the object itself.
public final class DigestTest {
    private static final Due DUE = new Due();
    private static long hash;

    private static void add(long value) {
        hash = 31 * hash + value;
    }

    private static long byLooks(WatchPoses x, String buffer) {
        hash = 3803;
        for (int what = 0; what <= 20; what++) {
            add(x.count(what));
        }
        for (int p = 0; p <= 5; p++) {
            for (int what = 0; what <= 7; what++) {
                add(x.pose(p, what));
            }
            add(x.stopsIn(p));
        }
        for (int r = 0; r < x.count(10); r++) {
            for (int what = 0; what <= 4; what++) {
                add(x.reading(r, what));
            }
        }
        add(x.stopped(0));
        add(x.stopped(1));
        add(x.stopped(2));
        add(x.ifWorn(0, 2, 4, 0));
        add(x.ifWorn(0, 2, 4, 1));
        add(x.ifWorn(1, 1, 5, 0));
        add(x.ifWorn(1, 1, 5, 1));
        add(x.bestRegulator());
        add(x.nightPose());
        add(Double.doubleToLongBits(x.going()));
        add(buffer.length());
        for (int i = 0; i < buffer.length(); i++) {
            add(buffer.charAt(i));
        }
        return hash;
    }

    private static void same(WatchPoses x, String when, String buffer) {
        DUE.is("digest " + when, x.digest(), byLooks(x, buffer));
        DUE.is("digest " + when + " again", x.digest(), hash);
    }

    // A new object for every few looks at all: an object serves for 512 calls.
    private static void ofReadings() {
        WatchPoses x = new WatchPoses();
        same(x, "of a new object", "");
        x.pass(3);
        same(x, "of a share of 0", "");
        x.wind(48);
        x.lay(3);
        x.read(5);
        x.read(2);
        same(x, "with two readings", "");
    }

    private static void ofBufferAndStop() {
        WatchPoses x = new WatchPoses();
        x.wind(48);
        Due.type(x, "p1;r0;~");
        same(x, "with a buffer", "p1;r0;~");
        x.clearBuffer();
        x.set(0, 11);
        Due.type(x, "r0;r1;d;r3");
        x.obey();
        same(x, "with a stop", "");
        x.pass(99);
        same(x, "of a watch that ran down", "");
    }

    private static void ofManyShares() {
        for (int stood = 0; stood < 60; stood++) {
            WatchPoses x = new WatchPoses();
            for (int i = 0; i < stood; i++) {
                x.pass(1 + i % 7 * 16);
            }
            x.wind(1 + stood % 48);
            x.pass(1 + stood % 5);
            same(x, "of a share with " + stood + " waits", "");
        }
    }

    /** Shares of one hour in very many have the least exponents. */
    private static void ofSmallShares() {
        for (int waits = 1; waits <= 300; waits += 23) {
            WatchPoses x = new WatchPoses();
            x.wind(1);
            for (int i = 0; i < waits; i++) {
                x.pass(99);
            }
            same(x, "of one hour in " + x.count(0), "");
        }
    }

    public static void main(String[] args) {
        ofReadings();
        ofBufferAndStop();
        ofManyShares();
        ofSmallShares();
        DUE.end("DigestTest");
    }
}
