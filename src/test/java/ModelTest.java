import java.util.function.LongSupplier;

// Promises 1 to 29 together: runs of calls, chosen by a fixed row of numbers, on the class
// and on PlainWatch; each answer, each exception and the digest behind each call must agree.
public final class ModelTest {
    private static final int RUNS = 1000;
    // With a digest behind each, and with what a step may go on beyond it, still under 512 calls.
    private static final int CALLS_IN_A_RUN = 250;
    private static final int EDGES_EVERY = 8;

    private static final Due DUE = new Due();
    private static long seed;

    private static int upTo(int bound) {
        seed = seed * 6364136223846793005L + 1442695040888963407L;
        return (int) ((seed >>> 33) % bound);
    }

    /** Mostly from the range, now and then its edges and what lies just outside it. */
    private static int around(int least, int most) {
        if (upTo(EDGES_EVERY) > 0) {
            return least + upTo(most - least + 1);
        }
        return switch (upTo(12)) {
            case 0 -> least - 1;
            case 1 -> most + 1;
            case 2 -> upTo(2) == 0 ? Integer.MIN_VALUE : Integer.MAX_VALUE;
            case 3, 4, 5, 6 -> least;
            default -> most;
        };
    }

    private static long outcome(LongSupplier call) {
        try {
            return call.getAsLong();
        } catch (IndexOutOfBoundsException e) {
            return Long.MIN_VALUE + 1;
        } catch (IllegalStateException e) {
            return Long.MIN_VALUE + 2;
        } catch (IllegalArgumentException e) {
            return e.getClass() == IllegalArgumentException.class ? Long.MIN_VALUE + 3 : Long.MIN_VALUE + 4;
        }
    }

    private static String onePart() {
        return switch (upTo(10)) {
            case 0, 1 -> "w" + (1 + upTo(48));
            case 2 -> "p" + upTo(6);
            case 3, 4, 5 -> "r" + upTo(6);
            case 6 -> "g" + (upTo(199) - 99);
            case 7 -> "d";
            default -> "+" + (1 + upTo(upTo(3) == 0 ? 99 : 12));
        };
    }

    private static String someOrders() {
        StringBuilder orders = new StringBuilder(onePart());
        for (int more = upTo(5); more > 0; more--) {
            orders.append(';').append(onePart());
        }
        if (upTo(4) == 0) {
            String signs = "wprgd+;-0123456789 ~!{";
            orders.setCharAt(upTo(orders.length()), signs.charAt(upTo(signs.length())));
        }
        return orders.toString();
    }

    private static final class Pair {
        final WatchPoses x = new WatchPoses();
        final PlainWatch plain = new PlainWatch();
        final int run;
        int calls = 0;
        String typed = "";

        Pair(int run) {
            this.run = run;
        }

        void same(String call, LongSupplier ofClass, LongSupplier ofPlain) {
            calls++;
            String name = "run " + run + ", call " + calls + ": " + call;
            DUE.is(name, outcome(ofClass), outcome(ofPlain));
            DUE.is("digest behind " + name, x.digest(), plain.digest());
        }

        void typeOne() {
            if (typed.isEmpty()) {
                typed = someOrders();
            }
            int code = typed.charAt(0);
            typed = typed.substring(1);
            same("append(" + code + ")", () -> x.append(code), () -> plain.append(code));
        }

        void typeAll() {
            do {
                typeOne();
            } while (!typed.isEmpty() && calls < CALLS_IN_A_RUN);
            same("firstError()", x::firstError, plain::firstError);
            same("obey()", x::obey, plain::obey);
            if (upTo(3) > 0) {
                same("clearBuffer()", x::clearBuffer, plain::clearBuffer);
            }
        }

        void readAllPoses() {
            for (int p = 0; p < 6 && calls < CALLS_IN_A_RUN; p++) {
                int inPose = p;
                same("read(" + p + ")", () -> x.read(inPose), () -> plain.read(inPose));
            }
        }

        void change() {
            int a = around(0, 5);
            int n = around(1, 48);
            switch (upTo(12)) {
                case 0, 1 -> same("wind(" + n + ")", () -> x.wind(n), () -> plain.wind(n));
                case 2 -> {
                    int w = around(-60, 60);
                    same("weigh(" + a + ", " + w + ")", () -> x.weigh(a, w), () -> plain.weigh(a, w));
                }
                case 3 -> {
                    int r = around(-99, 99);
                    int s = around(-50, 50);
                    same("adjust(" + r + ", " + s + ")", () -> x.adjust(r, s), () -> plain.adjust(r, s));
                }
                case 4 -> {
                    int m = upTo(3) == 0 ? around(1, 100) : 1 + upTo(30);
                    same("magnetise(" + m + ")", () -> x.magnetise(m), () -> plain.magnetise(m));
                }
                case 5 -> same("demagnetise()", x::demagnetise, plain::demagnetise);
                case 6 -> {
                    if (run % 4 != 0 && upTo(4) == 0) {
                        same("clean()", x::clean, plain::clean);
                    }
                }
                case 7 -> same("lay(" + a + ")", () -> x.lay(a), () -> plain.lay(a));
                case 8, 9 -> {
                    int h = upTo(3) == 0 ? around(1, 99) : 1 + upTo(12);
                    same("pass(" + h + ")", () -> x.pass(h), () -> plain.pass(h));
                }
                case 10 -> same("read(" + a + ")", () -> x.read(a), () -> plain.read(a));
                default -> changeSetting();
            }
        }

        void changeSetting() {
            int s = around(0, 3);
            int[] least = {10, 0, 1, 5};
            int[] most = {200, 100, 200, 900};
            int v = s < 0 || s > 3 ? upTo(20) : around(least[s], most[s]);
            same("set(" + s + ", " + v + ")", () -> x.set(s, v), () -> plain.set(s, v));
        }

        void look() {
            int a = around(0, 5);
            int b = upTo(6);
            int c = around(0, 5);
            int what = around(0, 1);
            switch (upTo(8)) {
                case 0 -> {
                    int w = around(0, 7);
                    same("pose(" + a + ", " + w + ")", () -> x.pose(a, w), () -> plain.pose(a, w));
                }
                case 1 -> {
                    int r = around(0, 40);
                    int w = around(0, 4);
                    same("reading(" + r + ", " + w + ")", () -> x.reading(r, w), () -> plain.reading(r, w));
                }
                case 2 -> {
                    int w = around(0, 20);
                    same("count(" + w + ")", () -> x.count(w), () -> plain.count(w));
                }
                case 3 -> {
                    int w = around(0, 2);
                    same("stopped(" + w + ")", () -> x.stopped(w), () -> plain.stopped(w));
                }
                case 4 -> same("stopsIn(" + a + ")", () -> x.stopsIn(a), () -> plain.stopsIn(a));
                case 5 -> {
                    int code = around(33, 126);
                    same("append(" + code + ")", () -> x.append(code), () -> plain.append(code));
                }
                default -> same("ifWorn(" + a + ", " + b + ", " + c + ", " + what + ")",
                    () -> x.ifWorn(a, b, c, what), () -> plain.ifWorn(a, b, c, what));
            }
        }

        void back() {
            switch (upTo(4)) {
                case 0, 1 -> same("undo()", x::undo, plain::undo);
                case 2 -> same("keep()", x::keep, plain::keep);
                default -> same("restore()", x::restore, plain::restore);
            }
        }

        /** Long times in which it goes, so that the dirt grows until it stops the watch. */
        void wearOn() {
            same("wind(48)", () -> x.wind(48), () -> plain.wind(48));
            same("pass(48)", () -> x.pass(48), () -> plain.pass(48));
        }

        void step() {
            if (run % 4 == 0 && calls < 160) {
                wearOn();
                return;
            }
            switch (upTo(20)) {
                case 0 -> readAllPoses();
                case 1 -> typeAll();
                case 2 -> {
                    if (upTo(5) == 0) {
                        same("renew()", x::renew, plain::renew);
                    }
                }
                case 3, 4, 5 -> look();
                case 6, 7 -> back();
                default -> change();
            }
        }
    }

    public static void main(String[] args) {
        for (int run = 0; run < RUNS; run++) {
            seed = 7919L * run + 17L;
            Pair pair = new Pair(run);
            DUE.is("digest of the new object", pair.x.digest(), pair.plain.digest());
            for (int steps = 0; steps < 2000 && pair.calls < CALLS_IN_A_RUN; steps++) {
                pair.step();
            }
        }
        DUE.end("ModelTest");
    }
}
