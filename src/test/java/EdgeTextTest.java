// The boundary cases of "Terms: Input text" and of promises 13 to 17: above each test
// stands the sentence of the document that it is of.
public final class EdgeTextTest {
    private static final Due DUE = new Due();
    private static final Class<IllegalArgumentException> ARGUMENT = IllegalArgumentException.class;
    private static final Class<IllegalStateException> STATE = IllegalStateException.class;
    private static final int MIN = Integer.MIN_VALUE;
    private static final int MAX = Integer.MAX_VALUE;
    private static final String KINDS = "wprgd+";

    private static WatchPoses typed(String orders) {
        WatchPoses x = new WatchPoses();
        Due.type(x, orders);
        return x;
    }

    // append: "the character code, 33 to 126"; "The buffer has at most 60 characters."
    private static void appendAtItsEdges() {
        WatchPoses x = new WatchPoses();
        DUE.allRefused(x, "append to an empty buffer", ARGUMENT, x::append, 32, 127, 0, -1, 33 + 256, MIN, MAX);
        for (int length = 1; length <= 60; length++) {
            DUE.is("append to " + length, x.append(length % 2 == 0 ? 33 : 126), length);
        }
        DUE.allRefused(x, "append to a full buffer", STATE, x::append, 33, 126, 'd');
        DUE.allRefused(x, "no such code, and a full buffer", ARGUMENT, x::append, 32, 127, MIN, MAX);
        DUE.is("length that it had", x.clearBuffer(), 60);
        DUE.is("append behind that", x.append('d'), 1);
    }

    // append: each code of 33 to 126 is kept as it is
    private static void everyCodeIsTaken() {
        for (int code = 33; code <= 126; code++) {
            WatchPoses x = new WatchPoses();
            long empty = x.digest();
            DUE.is("append(" + code + ")", x.append(code), 1);
            // The length 1 and the code are the last two values, in place of the length 0.
            DUE.is("digest with " + code, x.digest(), (empty + 1) * 31 + code);
        }
    }

    // clearBuffer: "Returns the length that it had."
    private static void clearBufferAtItsEdges() {
        for (int length : new int[] {0, 1, 59, 60}) {
            WatchPoses x = typed("!".repeat(length));
            DUE.is("clearBuffer() of " + length, x.clearBuffer(), length);
            DUE.is("and again", x.clearBuffer(), 0);
            DUE.is("an empty buffer has no error", x.firstError(), 0);
        }
    }

    private static void follows(String before, String allowed) {
        for (int code = 33; code <= 126; code++) {
            WatchPoses x = typed(before);
            x.append(code);
            int due = allowed.indexOf(code) >= 0 ? before.length() + 1 : before.length();
            DUE.is("firstError of " + before + (char) code, x.firstError(), due);
        }
    }

    // "a character is a syntax error if no orders as a text, of any length, begin with the characters before it and
    // this character": all characters behind all kinds of beginnings
    private static void whatMayFollow() {
        String digits = "0123456789";
        String fromOne = "123456789";
        String[] begins = {"", "d;", "w48;", "g-99;p0;"};
        for (String begin : begins) {
            follows(begin, KINDS);
            follows(begin + "w", fromOne);
            follows(begin + "w1", digits + ";");
            follows(begin + "w3", digits + ";");
            follows(begin + "w4", "012345678;");
            follows(begin + "w5", ";");
            follows(begin + "w9", ";");
            follows(begin + "w10", ";");
            follows(begin + "w48", ";");
            follows(begin + "p", "012345");
            follows(begin + "p5", ";");
            follows(begin + "r", "012345");
            follows(begin + "r0", ";");
            follows(begin + "g", digits + "-");
            follows(begin + "g-", fromOne);
            follows(begin + "g0", ";");
            follows(begin + "g1", digits + ";");
            follows(begin + "g9", digits + ";");
            follows(begin + "g-9", digits + ";");
            follows(begin + "g99", ";");
            follows(begin + "g-10", ";");
            follows(begin + "d", ";");
            follows(begin + "+", fromOne);
            follows(begin + "+9", digits + ";");
            follows(begin + "+99", ";");
        }
    }

    // firstError: "the index of the first character that is a syntax error"; "the length of the buffer if there is none"
    private static void firstErrorIsTheFirst() {
        DUE.is("of an empty buffer", new WatchPoses().firstError(), 0);
        WatchPoses x = typed("w49");
        DUE.is("at the third", x.firstError(), 2);
        Due.type(x, ";p6;x");
        DUE.is("still at the third", x.firstError(), 2);
        x.clearBuffer();
        DUE.is("of an empty buffer again", x.firstError(), 0);
        DUE.is("nothing is saved", x.count(20), 0);
    }

    // "of any length": the buffer ends, the orders need not
    private static void ordersMayBeLongerThanTheBuffer() {
        for (String last : new String[] {"w", "p", "r", "g", "+", "w1", "g-"}) {
            String full = (last.length() == 1 ? "w1;" + "d;".repeat(28) : "d;".repeat(29)) + last;
            WatchPoses x = typed(full);
            DUE.is("no error in " + full, x.firstError(), 60);
            if (last.equals("w1")) {
                DUE.is("it is whole", x.obey(), 30);
            } else {
                DUE.refusedArgument(x, "obey of " + full, x::obey);
            }
        }
        DUE.is("an error at the last place", typed("d;".repeat(29) + "dd").firstError(), 59);
        DUE.is("none at the last place", typed("d;".repeat(30)).firstError(), 60);
        DUE.is("an error at the first place", typed(";" + "d;".repeat(29)).firstError(), 0);
    }

    // "w" and hours, 1 to 48; "+" and hours, 1 to 99; "numbers without a leading zero"
    private static void hoursOfAllSizes() {
        for (int hours = 0; hours <= 120; hours++) {
            WatchPoses x = typed("w" + hours);
            if (hours >= 1 && hours <= 48) {
                DUE.is("obey() of w" + hours, x.obey(), 1);
                DUE.is("hours left", x.count(1), hours);
            } else {
                DUE.refusedArgument(x, "obey of w" + hours, x::obey);
            }
            WatchPoses y = typed("+" + hours);
            if (hours >= 1 && hours <= 99) {
                DUE.is("obey() of +" + hours, y.obey(), 1);
                DUE.is("hour", y.count(0), hours);
            } else {
                DUE.refusedArgument(y, "obey of +" + hours, y::obey);
            }
        }
    }

    // "g", perhaps "-", and 1 to 99 (the regulator is set to it), or "g0"
    private static void regulatorsOfAllSizes() {
        for (int regulator = -120; regulator <= 120; regulator++) {
            WatchPoses x = typed("g" + regulator);
            x.adjust(50, 7);
            if (regulator >= -99 && regulator <= 99) {
                DUE.is("obey() of g" + regulator, x.obey(), 1);
                DUE.is("regulator", x.count(2), regulator + 100);
                DUE.is("the stud stays", x.count(3), 107);
            } else {
                DUE.refusedArgument(x, "obey of g" + regulator, x::obey);
            }
        }
    }

    // "p" and a pose, 0 to 5 (it is laid so); "r" and a pose (a reading)
    private static void posesOfAllNumbers() {
        for (int p = 0; p <= 12; p++) {
            WatchPoses x = typed("p" + p);
            WatchPoses y = typed("w9;r" + p);
            if (p > 5) {
                DUE.refusedArgument(x, "obey of p" + p, x::obey);
                DUE.refusedArgument(y, "obey of r" + p, y::obey);
                continue;
            }
            x.lay((p + 1) % 6);
            DUE.is("obey() of p" + p, x.obey(), 1);
            DUE.is("it lies", x.count(6), p);
            DUE.is("obey() of r" + p, y.obey(), 2);
            DUE.is("it is laid so", y.count(6), p);
            DUE.is("the reading", y.reading(0, 1), p);
        }
    }

    // "numbers without a leading zero"
    private static void noLeadingZero() {
        for (String orders : new String[] {"w01", "w048", "p00", "p05", "r01", "g00", "g01", "g-01", "g-0", "+01", "+099"}) {
            WatchPoses x = typed(orders);
            DUE.refusedArgument(x, "obey of " + orders, x::obey);
            DUE.is("nothing is done", x.count(20), 0);
        }
    }

    // obey: "if the buffer is not complete orders as a text (the buffer stays)"
    private static void obeyOfWhatIsNotComplete() {
        String[] incomplete = {"", ";", "w", "p", "r", "g", "+", "g-", "d;", "w9;", ";d", "d;;d", "w9;p", "w9;x", "d_d", "w9p3",
            "W9", "w9;r0;", "-5", "g+5", "w-5", "+-5", "d".repeat(60), ";".repeat(60)};
        for (String orders : incomplete) {
            WatchPoses x = Due.wound(3);
            Due.type(x, "r0");
            x.obey();
            Due.type(x, orders);
            DUE.refusedArgument(x, "obey of " + orders, x::obey);
            DUE.is("nothing is saved", x.count(20), 2);
            DUE.is("nothing is wound", x.count(1), 3);
            DUE.is("the buffer stays", x.clearBuffer(), orders.length());
        }
    }

    // obey: "part by part": one part, and the most that the buffer holds
    private static void obeyOfFewAndManyParts() {
        for (int parts = 1; parts <= 30; parts++) {
            WatchPoses x = typed("d;".repeat(parts - 1) + "d");
            x.magnetise(9);
            DUE.is("obey() of " + parts + " parts", x.obey(), parts);
            DUE.is("magnetism", x.count(4), 0);
            DUE.is("the buffer is cleared", x.clearBuffer(), 0);
            DUE.is("one state is saved", x.count(20), 2);
            DUE.is("no stop", x.stopped(0), -1);
        }
    }

    private static void stopIs(WatchPoses x, int part, int reason, int inPose) {
        DUE.is("the part of the stop", x.stopped(0), part);
        DUE.is("the reason of the stop", x.stopped(1), reason);
        DUE.is("the pose of the stop", x.stopped(2), inPose);
    }

    // obey: "up to the first reading that cannot be made"; "the number of the part that stopped it, from 0"
    private static void stopAtEveryPart() {
        for (int part = 0; part < 30; part++) {
            WatchPoses x = typed("d;".repeat(part) + "r" + part % 6 + (part < 28 ? ";w9" : ""));
            DUE.is("obey() that stops at " + part, x.obey(), part);
            stopIs(x, part, 1, part % 6);
            DUE.is("the buffer is cleared", x.clearBuffer(), 0);
            DUE.is("nothing behind it is done", x.count(1), 0);
            DUE.is("it is not laid so", x.count(6), 0);
            DUE.is("undo() of it", x.undo(), 0);
            stopIs(x, -1, -1, -1);
        }
    }

    // stopped: "1: the reason, 1 to 5": each, made by the parts ahead of it or there before
    private static void stopForEachReason() {
        WatchPoses x = typed("w2;r1;+2;r3");
        DUE.is("reason 1", x.obey(), 3);
        stopIs(x, 3, 1, 3);
        DUE.is("the reading ahead of it is made", x.count(11), 1);
        DUE.is("the hours ahead of it have passed", x.count(0), 2);
        DUE.is("it lies as for that", x.count(6), 1);
        WatchPoses y = Due.dirty(38);
        Due.type(y, "+47;r4;p0;+1;w1;r4;r1");
        DUE.is("reason 2", y.obey(), 5);
        stopIs(y, 5, 2, 4);
        WatchPoses z = Due.wound(20);
        z.adjust(0, 49);
        z.set(0, 50);
        Due.type(z, "r1;r2;r0");
        DUE.is("reason 3", z.obey(), 1);
        stopIs(z, 1, 3, 2);
        z.magnetise(41);
        Due.type(z, "r0;d");
        DUE.is("reason 4", z.obey(), 0);
        stopIs(z, 0, 4, 0);
        DUE.is("the part behind it is not done", z.count(4), 41);
        WatchPoses full = Due.wound(20);
        for (int i = 0; i < 21; i++) {
            full.read(0);
        }
        Due.type(full, "r5;".repeat(19) + "r4");
        DUE.is("reason 5", full.obey(), 19);
        stopIs(full, 19, 5, 4);
        DUE.is("readings", full.count(10), 40);
    }

    // stopped: "NONE if there is no stop"; "The latest stop is that of this call then, or none, if all are done."
    private static void noStop() {
        WatchPoses x = new WatchPoses();
        stopIs(x, -1, -1, -1);
        Due.type(x, "r5");
        x.obey();
        stopIs(x, 0, 1, 5);
        DUE.refusedState(x, "read(4)", () -> x.read(4));
        stopIs(x, 0, 1, 5);
        DUE.refusedArgument(x, "obey of an empty buffer", x::obey);
        stopIs(x, 0, 1, 5);
        Due.type(x, "d");
        x.obey();
        stopIs(x, -1, -1, -1);
        DUE.allRefused(x, "stopped", ARGUMENT, x::stopped, -1, 3, MIN, MAX);
    }

    // obey: "Undoable, as one call, also if nothing is done."
    private static void obeyIsOneCall() {
        WatchPoses x = Due.wound(9);
        for (String orders : new String[] {"r0;r1;r2", "g5;+3", "d", "g5", "w1;w1;w1;w1", "+99;r0"}) {
            long before = x.digest();
            int states = x.count(20);
            Due.type(x, orders);
            x.obey();
            DUE.is("saved states behind " + orders, x.count(20), states + 1);
            DUE.is("undo()", x.undo(), states);
            DUE.is("digest", x.digest(), before);
        }
    }

    public static void main(String[] args) {
        appendAtItsEdges();
        everyCodeIsTaken();
        clearBufferAtItsEdges();
        whatMayFollow();
        firstErrorIsTheFirst();
        ordersMayBeLongerThanTheBuffer();
        hoursOfAllSizes();
        regulatorsOfAllSizes();
        posesOfAllNumbers();
        noLeadingZero();
        obeyOfWhatIsNotComplete();
        obeyOfFewAndManyParts();
        stopAtEveryPart();
        stopForEachReason();
        noStop();
        obeyIsOneCall();
        DUE.end("EdgeTextTest");
    }
}
