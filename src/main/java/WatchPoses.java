// A watch timer: a watch that runs down in six poses, a paper of readings, orders as
// texts, undo and one snapshot. ../shared/DOC.md tells what each call promises.
public final class WatchPoses {
    public static final int NONE = -1;

    private static final int POSES = 6;
    private static final int FIRST_UPRIGHT_POSE = 2;
    private static final int SETTINGS = 4;
    private static final int BEAT_LIMIT = 0;
    private static final int MAGNETISM_LIMIT = 1;
    private static final int AGE_LIMIT = 2;
    private static final int SPREAD_LIMIT = 3;
    private static final int REGULATOR_MOST = 99;
    private static final int STUD_MOST = 50;
    private static final int WEIGHT_MOST = 60;
    private static final int PASS_MOST = 99;
    private static final int WATCH_HOURS = 8;
    // What the face adds so that its answers stay above NONE.
    private static final int SMALL_SHIFT = 100;
    private static final int RATE_SHIFT = 10000;
    private static final int WORN_SHIFT = 100000;
    private static final int ERROR_SHIFT = 1000000;
    // No rate, hour or error comes near it: where the search for a least one begins.
    private static final int BEYOND_ALL = 2000000000;

    private final State now = new State();
    private final State snapshot = new State();
    private final SavedStates saved = new SavedStates();
    private final OrderText text = new OrderText();
    // A second watch for what would be: it is used again by each such look.
    private final Watch trial = new Watch();
    private boolean hasSnapshot = false;

    public WatchPoses() {
    }

    // ---- the watch.

    public int wind(int hours) throws IllegalArgumentException {
        demandRange(hours, 1, Watch.SPRING_HOURS);
        saved.push(now);
        now.watch.tighten(hours);
        return now.watch.hoursLeft;
    }

    public int weigh(int pose, int weight) throws IndexOutOfBoundsException, IllegalArgumentException {
        demandPose(pose);
        demandRange(weight, -WEIGHT_MOST, WEIGHT_MOST);
        saved.push(now);
        int previous = now.watch.weightOf(pose);
        now.watch.putWeight(pose, weight);
        return previous + SMALL_SHIFT;
    }

    public int adjust(int regulator, int stud) throws IllegalArgumentException {
        demandRange(regulator, -REGULATOR_MOST, REGULATOR_MOST);
        demandRange(stud, -STUD_MOST, STUD_MOST);
        saved.push(now);
        int previous = now.watch.regulator;
        now.watch.regulator = regulator;
        now.watch.stud = stud;
        return previous + SMALL_SHIFT;
    }

    public int magnetise(int more) throws IllegalArgumentException {
        demandRange(more, 1, Watch.MAGNETISM_MOST);
        saved.push(now);
        now.watch.magnetism = Math.min(Watch.MAGNETISM_MOST, now.watch.magnetism + more);
        return now.watch.magnetism;
    }

    public int demagnetise() {
        saved.push(now);
        int before = now.watch.magnetism;
        now.watch.magnetism = 0;
        return before;
    }

    public int clean() {
        saved.push(now);
        int before = now.watch.dirt;
        now.watch.dirt = 0;
        return before;
    }

    public int lay(int pose) throws IndexOutOfBoundsException {
        demandPose(pose);
        saved.push(now);
        int previous = now.watch.lies;
        now.watch.lies = pose;
        return previous;
    }

    public int pass(int hours) throws IllegalArgumentException {
        demandRange(hours, 1, PASS_MOST);
        saved.push(now);
        return now.watch.run(hours);
    }

    public int read(int pose) throws IndexOutOfBoundsException, IllegalStateException {
        demandPose(pose);
        if (now.whyNoReading(pose) != 0) {
            throw new IllegalStateException("no reading can be made");
        }
        saved.push(now);
        now.makeReading(pose);
        return now.watch.rateIn(pose) + RATE_SHIFT;
    }

    public int renew() {
        saved.push(now);
        int before = now.paper.length;
        now.paper.length = 0;
        return before;
    }

    public int set(int setting, int value) throws IndexOutOfBoundsException, IllegalArgumentException {
        if (setting < 0 || setting >= SETTINGS) {
            throw new IndexOutOfBoundsException("no such setting");
        }
        demandRange(value, State.LEAST_SETTINGS[setting], State.MOST_SETTINGS[setting]);
        saved.push(now);
        int previous = now.settings[setting];
        now.settings[setting] = value;
        return previous;
    }

    // ---- texts.

    public int append(int code) throws IllegalArgumentException, IllegalStateException {
        demandRange(code, OrderText.FIRST_CODE, OrderText.LAST_CODE);
        if (text.length >= OrderText.LENGTH_MOST) {
            throw new IllegalStateException("the buffer is full");
        }
        text.codes[text.length] = code;
        text.length++;
        return text.length;
    }

    public int clearBuffer() {
        int before = text.length;
        text.length = 0;
        return before;
    }

    public int firstError() {
        return text.scan();
    }

    public int obey() throws IllegalArgumentException {
        if (!text.isComplete()) {
            throw new IllegalArgumentException("the buffer is not complete orders");
        }
        saved.push(now);
        now.forgetStop();
        int done = 0;
        while (done < text.parts && doPart(done)) {
            done++;
        }
        text.length = 0;
        return done;
    }

    public int stopped(int what) throws IllegalArgumentException {
        demandRange(what, 0, 2);
        return now.stopNumber(what);
    }

    // ---- undo, the snapshot

    public int undo() throws IllegalStateException {
        if (saved.size == 0) {
            throw new IllegalStateException("no saved state");
        }
        saved.popInto(now);
        return saved.size;
    }

    public int keep() {
        snapshot.copyFrom(now);
        hasSnapshot = true;
        return now.watch.hour;
    }

    public int restore() throws IllegalStateException {
        if (!hasSnapshot) {
            throw new IllegalStateException("no snapshot");
        }
        saved.push(now);
        now.copyFrom(snapshot);
        return now.watch.hour;
    }

    // ---- looks; nothing is changed.

    public int pose(int pose, int what) throws IndexOutOfBoundsException, IllegalArgumentException {
        demandPose(pose);
        demandRange(what, 0, 7);
        return poseNumber(pose, what);
    }

    public int reading(int reading, int what) throws IllegalArgumentException {
        if (reading < 0) {
            throw new IllegalArgumentException("no such place on the paper");
        }
        demandRange(what, 0, Paper.NUMBERS - 1);
        return readingNumber(reading, what);
    }

    public int count(int what) throws IllegalArgumentException {
        demandRange(what, 0, 20);
        return countNumber(what);
    }

    // ---- what would be; nothing is changed.

    public int ifWorn(int first, int second, int third, int what)
            throws IndexOutOfBoundsException, IllegalArgumentException {
        demandPose(first);
        demandPose(second);
        demandPose(third);
        demandRange(what, 0, 1);
        return wornNumber(first, second, third, what);
    }

    public int bestRegulator() {
        int others = 0;
        for (int p = 0; p < POSES; p++) {
            others += now.watch.rateIn(p) - now.watch.regulator;
        }
        int best = -REGULATOR_MOST;
        for (int tried = -REGULATOR_MOST; tried <= REGULATOR_MOST; tried++) {
            if (Math.abs(others + POSES * tried) < Math.abs(others + POSES * best)) {
                best = tried;
            }
        }
        return best + SMALL_SHIFT;
    }

    public int stopsIn(int pose) throws IndexOutOfBoundsException {
        demandPose(pose);
        return hoursUntilStop(pose);
    }

    public int nightPose() {
        int best = 0;
        int least = BEYOND_ALL;
        for (int p = 0; p < POSES; p++) {
            trial.copyFrom(now.watch);
            trial.lies = p;
            trial.run(WATCH_HOURS);
            if (Math.abs(trial.error) < least) {
                least = Math.abs(trial.error);
                best = p;
            }
        }
        return best;
    }

    public double going() {
        int hours = now.watch.hour;
        return hours > 0 ? (double) now.watch.went / (double) hours : 1.0;
    }

    public long digest() {
        long hash = 3803L;
        for (int what = 0; what <= 20; what++) {
            hash = mix(hash, countNumber(what));
        }
        hash = mixPoses(hash);
        hash = mixPaper(hash);
        for (int what = 0; what <= 2; what++) {
            hash = mix(hash, now.stopNumber(what));
        }
        for (int what = 0; what <= 1; what++) {
            hash = mix(hash, wornNumber(0, 2, 4, what));
        }
        for (int what = 0; what <= 1; what++) {
            hash = mix(hash, wornNumber(1, 1, 5, what));
        }
        hash = mix(hash, bestRegulator());
        hash = mix(hash, nightPose());
        hash = mix(hash, bitsOfShare(going()));
        hash = mix(hash, text.length);
        for (int place = 0; place < text.length; place++) {
            hash = mix(hash, text.codes[place]);
        }
        return hash;
    }

    // ---- what the calls share

    private static boolean isPose(int number) {
        return number >= 0 && number < POSES;
    }

    private static void demandPose(int number) {
        if (!isPose(number)) {
            throw new IndexOutOfBoundsException("no such pose");
        }
    }

    private static void demandRange(int value, int least, int most) {
        if (value < least || value > most) {
            throw new IllegalArgumentException("out of range");
        }
    }

    /** Answers false if the part is a reading that cannot be made. */
    private boolean doPart(int part) {
        int number = text.numbers[part];
        switch (text.kinds[part]) {
            case 'w':
                now.watch.tighten(number);
                return true;
            case 'p':
                now.watch.lies = number;
                return true;
            case 'r':
                return readOrStop(part, number);
            case 'g':
                now.watch.regulator = number;
                return true;
            case 'd':
                now.watch.magnetism = 0;
                return true;
            default:
                now.watch.run(number);
                return true;
        }
    }

    private boolean readOrStop(int part, int inPose) {
        int reason = now.whyNoReading(inPose);
        if (reason != 0) {
            now.noteStop(part, reason, inPose);
            return false;
        }
        now.makeReading(inPose);
        return true;
    }

    private int poseNumber(int p, int what) {
        int latest = now.paper.latestIn(p);
        switch (what) {
            case 0:
                return now.watch.weightOf(p) + SMALL_SHIFT;
            case 1:
                return now.watch.swingIn(p);
            case 2:
                return now.watch.rateIn(p) + RATE_SHIFT;
            case 3:
                return now.watch.beatErrorIn(p);
            case 4:
                return now.whyNoReading(p);
            case 5:
                return latest == NONE ? NONE : now.paper.number(latest, Paper.HOUR);
            case 6:
                return latest == NONE ? NONE : now.paper.number(latest, Paper.RATE) + RATE_SHIFT;
            default:
                return now.paper.readingsIn(p);
        }
    }

    private int readingNumber(int place, int what) {
        if (place >= now.paper.length) {
            return NONE;
        }
        int number = now.paper.number(place, what);
        return what == Paper.RATE ? number + RATE_SHIFT : number;
    }

    private int countNumber(int what) {
        Watch watch = now.watch;
        switch (what) {
            case 0: return watch.hour;
            case 1: return watch.hoursLeft;
            case 2: return watch.regulator + SMALL_SHIFT;
            case 3: return watch.stud + SMALL_SHIFT;
            case 4: return watch.magnetism;
            case 5: return watch.dirt;
            case 6: return watch.lies;
            case 7: return watch.goes() ? 1 : 0;
            case 8: return watch.error + ERROR_SHIFT;
            case 9: return watch.stood;
            case 10: return now.paper.length;
            case 11: return now.readings;
            case 12: return now.dayRateByPoses();
            case 13: return now.dayRateByPaper();
            case 14: return now.whyNoDayRate();
            case 15: return watch.went;
            case 16: return now.settings[BEAT_LIMIT];
            case 17: return now.settings[MAGNETISM_LIMIT];
            case 18: return now.settings[AGE_LIMIT];
            case 19: return now.settings[SPREAD_LIMIT];
            default: return saved.size;
        }
    }

    private int wornNumber(int first, int second, int third, int what) {
        trial.copyFrom(now.watch);
        trial.lies = first;
        int went = trial.run(WATCH_HOURS);
        trial.lies = second;
        went += trial.run(WATCH_HOURS);
        trial.lies = third;
        went += trial.run(WATCH_HOURS);
        return what == 0 ? trial.error - now.watch.error + WORN_SHIFT : went;
    }

    private int hoursUntilStop(int p) {
        trial.copyFrom(now.watch);
        trial.lies = p;
        return trial.run(Watch.SPRING_HOURS);
    }

    private static long mix(long hash, long value) {
        return 31L * hash + value;
    }

    private long mixPoses(long before) {
        long hash = before;
        for (int p = 0; p < POSES; p++) {
            for (int what = 0; what <= 7; what++) {
                hash = mix(hash, poseNumber(p, what));
            }
            hash = mix(hash, hoursUntilStop(p));
        }
        return hash;
    }

    private long mixPaper(long before) {
        long hash = before;
        for (int place = 0; place < now.paper.length; place++) {
            for (int what = 0; what < Paper.NUMBERS; what++) {
                hash = mix(hash, readingNumber(place, what));
            }
        }
        return hash;
    }

    // Double.doubleToLongBits by hand, since LANGUAGE.md leaves it out. A share is 0 or
    // lies above 1/2^60, so its bits are never those of a subnormal number.
    private static long bitsOfShare(double share) {
        if (share <= 0.0) {
            return 0L;
        }
        double scaled = share;
        long exponent = 1023L;
        for (int step = 0; step < 60 && scaled < 1.0; step++) {
            scaled = scaled * 2.0;
            exponent--;
        }
        long fraction = (long) ((scaled - 1.0) * 4503599627370496.0);
        return (exponent << 52) + fraction;
    }

    /** The watch and its time: all that a look at what would be has to try out. */
    private static final class Watch {
        static final int SPRING_HOURS = 48;
        static final int MAGNETISM_MOST = 100;
        private static final int DIRT_MOST = 100;
        private static final int DAY = 24;
        private static final int LEAST_SWING = 120;
        private static final int KNOCKS_ABOVE = 300;
        private static final int STICKS_ABOVE = 50;
        private static final int[] FIRST_WEIGHTS = {2, -2, 8, -8, 4, -4};

        private final int[] weights = FIRST_WEIGHTS.clone();
        int regulator = 0;
        int stud = 10;
        int hoursLeft = 0;
        int magnetism = 0;
        int dirt = 0;
        int lies = 0;
        int hour = 0;
        int error = 0;
        int stood = 0;
        int went = 0;

        int weightOf(int p) {
            return isPose(p) ? weights[p] : 0;
        }

        void putWeight(int p, int weight) {
            if (isPose(p)) {
                weights[p] = weight;
            }
        }

        void tighten(int hours) {
            hoursLeft = Math.min(SPRING_HOURS, hoursLeft + hours);
        }

        int swingIn(int p) {
            int swing = 320 - 3 * (SPRING_HOURS - hoursLeft) - dirt;
            if (p >= FIRST_UPRIGHT_POSE) {
                swing -= 20;
            }
            return Math.max(0, swing);
        }

        int rateIn(int p) {
            int swing = swingIn(p);
            int rate = regulator + Math.floorDiv(weightOf(p) * (360 - swing), 100) + 2 * magnetism;
            if (magnetism > STICKS_ABOVE) {
                return rate + 300;
            }
            return swing > KNOCKS_ABOVE ? rate + 600 : rate;
        }

        int beatErrorIn(int p) {
            int beatError = Math.abs(stud) + dirt / 10;
            return p >= FIRST_UPRIGHT_POSE ? beatError + 2 : beatError;
        }

        boolean goes() {
            return hoursLeft > 0 && swingIn(lies) >= LEAST_SWING;
        }

        /** Answers in how many of the hours it went. */
        int run(int hours) {
            int before = went;
            for (int passed = 0; passed < hours; passed++) {
                runHour();
            }
            return went - before;
        }

        private void runHour() {
            hour++;
            if (!goes()) {
                stood++;
                return;
            }
            // The rate is that of the hour's begin: the spring and the dirt change behind it.
            error += Math.floorDiv(rateIn(lies), DAY);
            hoursLeft--;
            went++;
            if (went % DAY == 0) {
                dirt = Math.min(DIRT_MOST, dirt + 1);
            }
        }

        void copyFrom(Watch other) {
            System.arraycopy(other.weights, 0, weights, 0, POSES);
            regulator = other.regulator;
            stud = other.stud;
            hoursLeft = other.hoursLeft;
            magnetism = other.magnetism;
            dirt = other.dirt;
            lies = other.lies;
            hour = other.hour;
            error = other.error;
            stood = other.stood;
            went = other.went;
        }
    }

    /** The readings, the oldest one first, each as five numbers in one row. */
    private static final class Paper {
        static final int LENGTH_MOST = 40;
        static final int NUMBERS = 5;
        static final int HOUR = 0;
        static final int POSE = 1;
        static final int RATE = 2;
        static final int BEAT_ERROR = 3;
        static final int SWING = 4;

        private final int[] row = new int[LENGTH_MOST * NUMBERS];
        int length = 0;

        boolean isFull() {
            return length >= LENGTH_MOST;
        }

        void print(Watch watch) {
            if (isFull()) {
                return;
            }
            int start = length * NUMBERS;
            row[start + HOUR] = watch.hour;
            row[start + POSE] = watch.lies;
            row[start + RATE] = watch.rateIn(watch.lies);
            row[start + BEAT_ERROR] = watch.beatErrorIn(watch.lies);
            row[start + SWING] = watch.swingIn(watch.lies);
            length++;
        }

        int number(int place, int what) {
            if (place < 0 || place >= length || what < 0 || what >= NUMBERS) {
                return NONE;
            }
            return row[place * NUMBERS + what];
        }

        /** Answers the place of the latest reading in this pose, or NONE. */
        int latestIn(int p) {
            for (int place = length - 1; place >= 0; place--) {
                if (number(place, POSE) == p) {
                    return place;
                }
            }
            return NONE;
        }

        int readingsIn(int p) {
            int found = 0;
            for (int place = 0; place < length; place++) {
                if (number(place, POSE) == p) {
                    found++;
                }
            }
            return found;
        }

        void copyFrom(Paper other) {
            System.arraycopy(other.row, 0, row, 0, row.length);
            length = other.length;
        }
    }

    /** All that undo and the snapshot bring back. */
    private static final class State {
        static final int[] LEAST_SETTINGS = {10, 0, 1, 5};
        static final int[] MOST_SETTINGS = {200, 100, 200, 900};
        private static final int[] FIRST_SETTINGS = {60, 40, 24, 60};
        private static final int POSE_UNREAD = 6;
        private static final int TOO_OLD = 7;
        private static final int TOO_SPREAD = 8;

        final Watch watch = new Watch();
        final Paper paper = new Paper();
        final int[] settings = FIRST_SETTINGS.clone();
        int readings = 0;
        private int stopPart = NONE;
        private int stopReason = NONE;
        private int stopPose = NONE;

        /** Answers the first reason against a reading, or 0. */
        int whyNoReading(int p) {
            if (watch.hoursLeft <= 0) {
                return 1;
            }
            if (watch.swingIn(p) < Watch.LEAST_SWING) {
                return 2;
            }
            if (watch.beatErrorIn(p) > settings[BEAT_LIMIT]) {
                return 3;
            }
            if (watch.magnetism > settings[MAGNETISM_LIMIT]) {
                return 4;
            }
            return paper.isFull() ? 5 : 0;
        }

        void makeReading(int p) {
            watch.lies = p;
            paper.print(watch);
            readings++;
        }

        int whyNoDayRate() {
            int oldest = BEYOND_ALL;
            int least = BEYOND_ALL;
            int greatest = -BEYOND_ALL;
            for (int p = 0; p < POSES; p++) {
                int place = paper.latestIn(p);
                if (place == NONE) {
                    return POSE_UNREAD;
                }
                int rate = paper.number(place, Paper.RATE);
                oldest = Math.min(oldest, paper.number(place, Paper.HOUR));
                least = Math.min(least, rate);
                greatest = Math.max(greatest, rate);
            }
            if (watch.hour - oldest > settings[AGE_LIMIT]) {
                return TOO_OLD;
            }
            return greatest - least > settings[SPREAD_LIMIT] ? TOO_SPREAD : 0;
        }

        int dayRateByPoses() {
            if (whyNoDayRate() != 0) {
                return NONE;
            }
            int sum = 0;
            for (int p = 0; p < POSES; p++) {
                sum += paper.number(paper.latestIn(p), Paper.RATE);
            }
            return Math.floorDiv(sum, POSES) + RATE_SHIFT;
        }

        /** The same number in the other way: what it asks of the readings is tested on its own. */
        int dayRateByPaper() {
            int seenPoses = 0;
            int seen = 0;
            int sum = 0;
            int least = BEYOND_ALL;
            int greatest = -BEYOND_ALL;
            for (int place = paper.length - 1; place >= 0 && seen < POSES; place--) {
                int bit = 1 << paper.number(place, Paper.POSE);
                if ((seenPoses & bit) != 0) {
                    continue;
                }
                // Readings only get older towards the begin of the paper.
                if (watch.hour - paper.number(place, Paper.HOUR) > settings[AGE_LIMIT]) {
                    return NONE;
                }
                int rate = paper.number(place, Paper.RATE);
                seenPoses |= bit;
                seen++;
                sum += rate;
                least = Math.min(least, rate);
                greatest = Math.max(greatest, rate);
            }
            if (seen < POSES || greatest - least > settings[SPREAD_LIMIT]) {
                return NONE;
            }
            return Math.floorDiv(sum, POSES) + RATE_SHIFT;
        }

        void noteStop(int part, int reason, int inPose) {
            stopPart = part;
            stopReason = reason;
            stopPose = inPose;
        }

        void forgetStop() {
            noteStop(NONE, NONE, NONE);
        }

        int stopNumber(int what) {
            switch (what) {
                case 0:
                    return stopPart;
                case 1:
                    return stopReason;
                default:
                    return stopPose;
            }
        }

        void copyFrom(State other) {
            watch.copyFrom(other.watch);
            paper.copyFrom(other.paper);
            System.arraycopy(other.settings, 0, settings, 0, SETTINGS);
            readings = other.readings;
            stopPart = other.stopPart;
            stopReason = other.stopReason;
            stopPose = other.stopPose;
        }
    }

    /** A ring of states: its rows are made once, the oldest one is written over. */
    private static final class SavedStates {
        private static final int SIZE_MOST = 6;

        private final State[] ring = new State[SIZE_MOST];
        private int next = 0;
        int size = 0;

        SavedStates() {
            for (int slot = 0; slot < SIZE_MOST; slot++) {
                ring[slot] = new State();
            }
        }

        void push(State state) {
            ring[next].copyFrom(state);
            next = (next + 1) % SIZE_MOST;
            size = Math.min(SIZE_MOST, size + 1);
        }

        void popInto(State state) {
            if (size == 0) {
                return;
            }
            next = (next + SIZE_MOST - 1) % SIZE_MOST;
            size--;
            state.copyFrom(ring[next]);
        }
    }

    /** The buffer, and the orders that a scan of it finds. */
    private static final class OrderText {
        static final int FIRST_CODE = 33;
        static final int LAST_CODE = 126;
        static final int LENGTH_MOST = 60;
        private static final int NO_KIND = 0;

        final int[] codes = new int[LENGTH_MOST];
        int length = 0;
        // No part is shorter than one character, so these rows always suffice.
        final int[] kinds = new int[LENGTH_MOST];
        final int[] numbers = new int[LENGTH_MOST];
        int parts = 0;
        // The part that is being read.
        private int kind = NO_KIND;
        private boolean negative = false;
        private int digits = 0;
        private int value = 0;

        /** Answers the place of the first wrong character, or the length. */
        int scan() {
            parts = 0;
            beginPart();
            for (int place = 0; place < length; place++) {
                if (!takes(codes[place])) {
                    return place;
                }
            }
            return length;
        }

        /** Reads the orders as well; they stand in kinds and numbers if it answers true. */
        boolean isComplete() {
            if (scan() < length || !isPartWhole()) {
                return false;
            }
            endPart();
            return true;
        }

        private void beginPart() {
            kind = NO_KIND;
            negative = false;
            digits = 0;
            value = 0;
        }

        private boolean isPartWhole() {
            return kind == 'd' || digits > 0;
        }

        private void endPart() {
            if (parts < LENGTH_MOST) {
                kinds[parts] = kind;
                numbers[parts] = negative ? -value : value;
                parts++;
            }
            beginPart();
        }

        private boolean takes(int code) {
            if (kind == NO_KIND) {
                return takesKind(code);
            }
            if (code == ';') {
                return takesSemicolon();
            }
            if (code == '-') {
                return takesMinus();
            }
            return takesDigit(code - '0');
        }

        private boolean takesKind(int code) {
            switch (code) {
                case 'w':
                case 'p':
                case 'r':
                case 'g':
                case 'd':
                case '+':
                    kind = code;
                    return true;
                default:
                    return false;
            }
        }

        private boolean takesSemicolon() {
            if (!isPartWhole()) {
                return false;
            }
            endPart();
            return true;
        }

        private boolean takesMinus() {
            if (kind != 'g' || negative || digits > 0) {
                return false;
            }
            negative = true;
            return true;
        }

        private boolean takesDigit(int digit) {
            boolean behindZero = digits > 0 && value == 0;
            int longer = 10 * value + digit;
            if (digit < 0 || digit > 9 || behindZero || longer < leastNumber() || longer > mostNumber()) {
                return false;
            }
            digits++;
            value = longer;
            return true;
        }

        private int leastNumber() {
            return kind == 'w' || kind == '+' || negative ? 1 : 0;
        }

        private int mostNumber() {
            switch (kind) {
                case 'w':
                    return Watch.SPRING_HOURS;
                case 'p':
                case 'r':
                    return POSES - 1;
                case 'g':
                    return REGULATOR_MOST;
                case '+':
                    return PASS_MOST;
                default:
                    // "d" has no number.
                    return NONE;
            }
        }
    }
}
