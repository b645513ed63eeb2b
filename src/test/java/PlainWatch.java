import java.util.ArrayDeque;
import java.util.ArrayList;
import java.util.Deque;
import java.util.List;
import java.util.regex.Matcher;
import java.util.regex.Pattern;

// The document once more, written as plainly as the whole Java library allows and without
// a look at the class: ModelTest holds the two against one another.
final class PlainWatch {
    private static final Pattern ORDERS;

    static {
        String part = "(?:w(?:[1-9]|[1-3][0-9]|4[0-8])|p[0-5]|r[0-5]|g0|g-?[1-9][0-9]?|d|\\+[1-9][0-9]?)";
        ORDERS = Pattern.compile(part + "(?:;" + part + ")*");
    }

    private record Reading(int hour, int pose, int rate, int beat, int swing) { }

    private record Stop(int part, int reason, int pose) { }

    private static final class Facts {
        int[] weights = {2, -2, 8, -8, 4, -4};
        int[] settings = {60, 40, 24, 60};
        int regulator = 0;
        int stud = 10;
        int left = 0;
        int magnetism = 0;
        int dirt = 0;
        int lies = 0;
        int hour = 0;
        int error = 0;
        int stood = 0;
        int went = 0;
        int readingsSoFar = 0;
        List<Reading> paper = new ArrayList<>();
        Stop stop = null;

        Facts copy() {
            Facts c = new Facts();
            c.weights = weights.clone();
            c.settings = settings.clone();
            c.regulator = regulator;
            c.stud = stud;
            c.left = left;
            c.magnetism = magnetism;
            c.dirt = dirt;
            c.lies = lies;
            c.hour = hour;
            c.error = error;
            c.stood = stood;
            c.went = went;
            c.readingsSoFar = readingsSoFar;
            c.paper = new ArrayList<>(paper);
            c.stop = stop;
            return c;
        }

        int swing(int p) {
            int s = 320 - 3 * (48 - left) - dirt - (p > 1 ? 20 : 0);
            return s < 0 ? 0 : s;
        }

        int rate(int p) {
            int r = regulator + (int) Math.floor(weights[p] * (360 - swing(p)) / 100.0) + 2 * magnetism;
            if (magnetism > 50) {
                r += 300;
            } else if (swing(p) > 300) {
                r += 600;
            }
            return r;
        }

        int beat(int p) {
            return (stud < 0 ? -stud : stud) + (int) Math.floor(dirt / 10.0) + (p > 1 ? 2 : 0);
        }

        boolean goes() {
            return left > 0 && swing(lies) >= 120;
        }

        int pass(int hours) {
            int inWhich = 0;
            while (hours-- > 0) {
                hour++;
                if (goes()) {
                    error += (int) Math.floor(rate(lies) / 24.0);
                    left--;
                    went++;
                    inWhich++;
                    if (went / 24 != (went - 1) / 24 && dirt < 100) {
                        dirt++;
                    }
                } else {
                    stood++;
                }
            }
            return inWhich;
        }

        int against(int p) {
            if (left == 0) return 1;
            if (swing(p) < 120) return 2;
            if (beat(p) > settings[0]) return 3;
            if (magnetism > settings[1]) return 4;
            if (paper.size() == 40) return 5;
            return 0;
        }

        void read(int p) {
            lies = p;
            paper.add(new Reading(hour, p, rate(p), beat(p), swing(p)));
            readingsSoFar++;
        }

        Reading latest(int p) {
            Reading found = null;
            for (Reading r : paper) {
                if (r.pose == p) {
                    found = r;
                }
            }
            return found;
        }

        int againstDay() {
            List<Integer> rates = new ArrayList<>();
            boolean old = false;
            for (int p = 0; p < 6; p++) {
                Reading r = latest(p);
                if (r == null) return 6;
                rates.add(r.rate);
                old |= hour - r.hour > settings[2];
            }
            if (old) return 7;
            int max = rates.stream().mapToInt(i -> i).max().getAsInt();
            int min = rates.stream().mapToInt(i -> i).min().getAsInt();
            return max - min > settings[3] ? 8 : 0;
        }

        int dayRate() {
            if (againstDay() != 0) return -1;
            double sum = 0;
            for (int p = 0; p < 6; p++) {
                sum += latest(p).rate;
            }
            return (int) Math.floor(sum / 6.0) + 10000;
        }
    }

    private Facts f = new Facts();
    private Facts kept = null;
    private final Deque<Facts> saved = new ArrayDeque<>();
    private String buffer = "";

    private static void pose0to5(int p) {
        if (p < 0 || p > 5) throw new IndexOutOfBoundsException();
    }

    private static void in(int v, int from, int to) {
        if (v < from || v > to) throw new IllegalArgumentException();
    }

    private void save() {
        saved.addLast(f.copy());
        if (saved.size() > 6) {
            saved.removeFirst();
        }
    }

    int wind(int hours) {
        in(hours, 1, 48);
        save();
        return f.left = Math.min(48, f.left + hours);
    }

    int weigh(int p, int weight) {
        pose0to5(p);
        in(weight, -60, 60);
        save();
        int was = f.weights[p];
        f.weights[p] = weight;
        return was + 100;
    }

    int adjust(int regulator, int stud) {
        in(regulator, -99, 99);
        in(stud, -50, 50);
        save();
        int was = f.regulator;
        f.regulator = regulator;
        f.stud = stud;
        return was + 100;
    }

    int magnetise(int more) {
        in(more, 1, 100);
        save();
        return f.magnetism = Math.min(100, f.magnetism + more);
    }

    int demagnetise() {
        save();
        int was = f.magnetism;
        f.magnetism = 0;
        return was;
    }

    int clean() {
        save();
        int was = f.dirt;
        f.dirt = 0;
        return was;
    }

    int lay(int p) {
        pose0to5(p);
        save();
        int was = f.lies;
        f.lies = p;
        return was;
    }

    int pass(int hours) {
        in(hours, 1, 99);
        save();
        return f.pass(hours);
    }

    int read(int p) {
        pose0to5(p);
        if (f.against(p) != 0) throw new IllegalStateException();
        save();
        f.read(p);
        return f.rate(p) + 10000;
    }

    int renew() {
        save();
        int was = f.paper.size();
        f.paper.clear();
        return was;
    }

    int set(int setting, int value) {
        if (setting < 0 || setting > 3) throw new IndexOutOfBoundsException();
        if (setting == 0) in(value, 10, 200);
        if (setting == 1) in(value, 0, 100);
        if (setting == 2) in(value, 1, 200);
        if (setting == 3) in(value, 5, 900);
        save();
        int was = f.settings[setting];
        f.settings[setting] = value;
        return was;
    }

    int append(int code) {
        in(code, 33, 126);
        if (buffer.length() == 60) throw new IllegalStateException();
        buffer += (char) code;
        return buffer.length();
    }

    int clearBuffer() {
        int was = buffer.length();
        buffer = "";
        return was;
    }

    int firstError() {
        for (int n = 1; n <= buffer.length(); n++) {
            Matcher m = ORDERS.matcher(buffer.substring(0, n));
            if (!m.matches() && !m.hitEnd()) {
                return n - 1;
            }
        }
        return buffer.length();
    }

    int obey() {
        if (!ORDERS.matcher(buffer).matches()) throw new IllegalArgumentException();
        save();
        f.stop = null;
        String[] parts = buffer.split(";");
        buffer = "";
        for (int i = 0; i < parts.length; i++) {
            String rest = parts[i].substring(1);
            int number = rest.isEmpty() ? 0 : Integer.parseInt(rest);
            switch (parts[i].charAt(0)) {
                case 'w' -> f.left = Math.min(48, f.left + number);
                case 'p' -> f.lies = number;
                case 'g' -> f.regulator = number;
                case 'd' -> f.magnetism = 0;
                case '+' -> f.pass(number);
                default -> {
                    if (f.against(number) != 0) {
                        f.stop = new Stop(i, f.against(number), number);
                        return i;
                    }
                    f.read(number);
                }
            }
        }
        return parts.length;
    }

    int stopped(int what) {
        in(what, 0, 2);
        if (f.stop == null) return -1;
        return what == 0 ? f.stop.part : what == 1 ? f.stop.reason : f.stop.pose;
    }

    int undo() {
        if (saved.isEmpty()) throw new IllegalStateException();
        f = saved.removeLast();
        return saved.size();
    }

    int keep() {
        kept = f.copy();
        return f.hour;
    }

    int restore() {
        if (kept == null) throw new IllegalStateException();
        save();
        f = kept.copy();
        return f.hour;
    }

    int pose(int p, int what) {
        pose0to5(p);
        in(what, 0, 7);
        Reading r = f.latest(p);
        return switch (what) {
            case 0 -> f.weights[p] + 100;
            case 1 -> f.swing(p);
            case 2 -> f.rate(p) + 10000;
            case 3 -> f.beat(p);
            case 4 -> f.against(p);
            case 5 -> r == null ? -1 : r.hour;
            case 6 -> r == null ? -1 : r.rate + 10000;
            default -> (int) f.paper.stream().filter(x -> x.pose == p).count();
        };
    }

    int reading(int reading, int what) {
        if (reading < 0) throw new IllegalArgumentException();
        in(what, 0, 4);
        if (reading >= f.paper.size()) return -1;
        Reading r = f.paper.get(reading);
        return switch (what) {
            case 0 -> r.hour;
            case 1 -> r.pose;
            case 2 -> r.rate + 10000;
            case 3 -> r.beat;
            default -> r.swing;
        };
    }

    int count(int what) {
        in(what, 0, 20);
        return new int[] {f.hour, f.left, f.regulator + 100, f.stud + 100, f.magnetism, f.dirt, f.lies,
            f.goes() ? 1 : 0, f.error + 1000000, f.stood, f.paper.size(), f.readingsSoFar, f.dayRate(),
            f.dayRate(), f.againstDay(), f.went, f.settings[0], f.settings[1], f.settings[2],
            f.settings[3], saved.size()}[what];
    }

    int ifWorn(int first, int second, int third, int what) {
        pose0to5(first);
        pose0to5(second);
        pose0to5(third);
        in(what, 0, 1);
        Facts c = f.copy();
        for (int p : new int[] {first, second, third}) {
            c.lies = p;
            c.pass(8);
        }
        return what == 0 ? c.error - f.error + 100000 : c.went - f.went;
    }

    int bestRegulator() {
        int best = -100;
        long bestSum = Long.MAX_VALUE;
        for (int r = -99; r <= 99; r++) {
            Facts c = f.copy();
            c.regulator = r;
            long sum = 0;
            for (int p = 0; p < 6; p++) {
                sum += c.rate(p);
            }
            if (Math.abs(sum) < bestSum) {
                bestSum = Math.abs(sum);
                best = r;
            }
        }
        return best + 100;
    }

    int stopsIn(int p) {
        pose0to5(p);
        Facts c = f.copy();
        c.lies = p;
        int hours = 0;
        while (c.goes()) {
            c.pass(1);
            hours++;
        }
        return hours;
    }

    int nightPose() {
        int best = -1;
        int nearest = 0;
        for (int p = 5; p >= 0; p--) {
            Facts c = f.copy();
            c.lies = p;
            c.pass(8);
            if (best < 0 || Math.abs(c.error) <= nearest) {
                nearest = Math.abs(c.error);
                best = p;
            }
        }
        return best;
    }

    double going() {
        return f.hour == 0 ? 1.0 : (double) f.went / f.hour;
    }

    long digest() {
        List<Long> values = new ArrayList<>();
        for (int i = 0; i <= 20; i++) values.add((long) count(i));
        for (int p = 0; p < 6; p++) {
            for (int i = 0; i <= 7; i++) values.add((long) pose(p, i));
            values.add((long) stopsIn(p));
        }
        for (int r = 0; r < f.paper.size(); r++) {
            for (int i = 0; i <= 4; i++) values.add((long) reading(r, i));
        }
        for (int i = 0; i <= 2; i++) values.add((long) stopped(i));
        values.add((long) ifWorn(0, 2, 4, 0));
        values.add((long) ifWorn(0, 2, 4, 1));
        values.add((long) ifWorn(1, 1, 5, 0));
        values.add((long) ifWorn(1, 1, 5, 1));
        values.add((long) bestRegulator());
        values.add((long) nightPose());
        values.add(Double.doubleToLongBits(going()));
        values.add((long) buffer.length());
        for (char c : buffer.toCharArray()) values.add((long) c);
        long hash = 3803;
        for (long v : values) hash = 31 * hash + v;
        return hash;
    }
}
