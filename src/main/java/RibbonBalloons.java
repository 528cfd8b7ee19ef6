import java.util.Arrays;

/**
 * Altimeters of balloons tied in a row by ribbons. What each method promises is told in
 * ../shared/DOC.md; the rules for this file are in ../shared/LANGUAGE.md.
 *
 * All rows are made in the constructor and used again: no later call makes an object, so that a
 * long run of calls needs little room.
 */
public final class RibbonBalloons {
    public static final int NONE = -1000;

    private static final int BALLOONS = 8;
    private static final int RIBBONS = BALLOONS - 1;
    private static final int MOST_GAS = 200;
    private static final int MOST_BAGS = 10;
    private static final int MOST_LEAK = 9;
    private static final int MOST_DRIFT = 20;
    private static final int MOST_LENGTH = 300;
    private static final int MOST_PULL = 500;
    private static final int MOST_AMOUNT = 99;
    private static final int MOST_HEIGHT = 999;
    private static final int MOST_NOTES = 20;
    private static final int MOST_SAVED = 6;
    private static final int MOST_CHARACTERS = 60;
    private static final int HOURS_AHEAD = 200;

    private static final int FIRST_GAS = 60;
    private static final int FIRST_BAGS = 4;
    private static final int FIRST_LEAK = 1;
    private static final int FIRST_LENGTH = 100;
    private static final int FIRST_PULL = 150;

    // The deeds, numbered as why() numbers them.
    private static final int FILL = 0;
    private static final int VENT = 1;
    private static final int DROP = 2;
    private static final int PUT = 3;
    private static final int TIE = 4;
    private static final int CUT = 5;

    private final State now = new State();
    private final State snapshot = new State();
    private boolean hasSnapshot = false;
    private final History history = new History();
    private final Text text = new Text();
    private final Flock trial = new Flock();
    private final Forecast forecast = new Forecast();

    public RibbonBalloons() {
    }

    // ---- gas, bags

    public int fill(int balloon, int gas)
            throws IndexOutOfBoundsException, IllegalArgumentException, IllegalStateException {
        checkBalloon(balloon);
        checkRange(gas, 1, MOST_AMOUNT);
        perform(FILL, balloon, gas);
        return now.flock.gas[balloon];
    }

    public int vent(int balloon, int gas)
            throws IndexOutOfBoundsException, IllegalArgumentException, IllegalStateException {
        checkBalloon(balloon);
        checkRange(gas, 1, MOST_AMOUNT);
        perform(VENT, balloon, gas);
        return now.flock.heights[balloon];
    }

    public int drop(int balloon) throws IndexOutOfBoundsException, IllegalStateException {
        checkBalloon(balloon);
        perform(DROP, balloon, 1);
        return now.flock.heights[balloon];
    }

    public int put(int balloon) throws IndexOutOfBoundsException, IllegalStateException {
        checkBalloon(balloon);
        perform(PUT, balloon, 1);
        return now.flock.bags[balloon];
    }

    public int leak(int balloon, int leak) throws IndexOutOfBoundsException, IllegalArgumentException {
        checkBalloon(balloon);
        checkRange(leak, 0, MOST_LEAK);
        history.save(now);
        int before = now.flock.leaks[balloon];
        now.flock.leaks[balloon] = leak;
        return before;
    }

    // ---- ribbons

    public int tie(int ribbon, int length)
            throws IndexOutOfBoundsException, IllegalArgumentException, IllegalStateException {
        checkRibbon(ribbon);
        checkRange(length, 0, MOST_LENGTH);
        perform(TIE, ribbon, length);
        return now.flock.stringSize(ribbon);
    }

    public int cut(int ribbon) throws IndexOutOfBoundsException, IllegalStateException {
        checkRibbon(ribbon);
        int before = now.flock.allHeights();
        perform(CUT, ribbon, 0);
        return now.flock.allHeights() - before;
    }

    public int bear(int ribbon, int pull) throws IndexOutOfBoundsException, IllegalArgumentException {
        checkRibbon(ribbon);
        checkRange(pull, 0, MOST_PULL);
        history.save(now);
        int before = now.flock.bears[ribbon];
        now.flock.bears[ribbon] = pull;
        return before;
    }

    // ---- altimeters, hours

    public int tune(int balloon, int drift) throws IndexOutOfBoundsException, IllegalArgumentException {
        checkBalloon(balloon);
        checkRange(drift, -MOST_DRIFT, MOST_DRIFT);
        history.save(now);
        int before = now.tells(balloon);
        now.drifts[balloon] = drift;
        now.tunedAt[balloon] = now.hours;
        return before;
    }

    public int note(int balloon) throws IndexOutOfBoundsException {
        checkBalloon(balloon);
        history.save(now);
        now.writeNote(balloon);
        return now.tells(balloon);
    }

    public int pass(int hours) throws IllegalArgumentException {
        checkRange(hours, 1, MOST_AMOUNT);
        history.save(now);
        int before = now.snapped;
        now.passHours(hours);
        return now.snapped - before;
    }

    // ---- texts, the snapshot

    public int append(int code) throws IllegalArgumentException, IllegalStateException {
        checkRange(code, 33, 126);
        if (text.length >= MOST_CHARACTERS) {
            throw new IllegalStateException("the buffer is full");
        }
        text.add(code);
        return text.length;
    }

    public int clearBuffer() {
        int before = text.length;
        text.length = 0;
        return before;
    }

    public int firstError() {
        return text.errorPlace();
    }

    public int work() throws IllegalArgumentException {
        if (!text.isComplete()) {
            throw new IllegalArgumentException("the buffer is not complete work");
        }
        history.save(now);
        now.stopPart = NONE;
        now.stopWhy = NONE;
        int done = 0;
        int start = 0;
        for (int end = 0; end <= text.length && now.stopPart == NONE; end++) {
            if (text.endsPart(end)) {
                int reason = workPart(start, end);
                if (reason == 0) {
                    done++;
                } else {
                    now.stopPart = done;
                    now.stopWhy = reason;
                }
                start = end + 1;
            }
        }
        text.length = 0;
        return done;
    }

    public int keep() {
        snapshot.copyFrom(now);
        hasSnapshot = true;
        return now.hours;
    }

    public int goBack() throws IllegalStateException {
        if (!hasSnapshot) {
            throw new IllegalStateException("there is no snapshot");
        }
        history.save(now);
        now.copyFrom(snapshot);
        return now.hours;
    }

    public int undo() throws IllegalStateException {
        if (history.size == 0) {
            throw new IllegalStateException("there is no saved state");
        }
        history.restore(now);
        return history.size;
    }

    // ---- looks; nothing is changed

    public int balloon(int balloon, int what) throws IndexOutOfBoundsException, IllegalArgumentException {
        checkBalloon(balloon);
        checkRange(what, 0, 11);
        Flock flock = now.flock;
        switch (what) {
            case 0: return flock.gas[balloon];
            case 1: return flock.bags[balloon];
            case 2: return flock.leaks[balloon];
            case 3: return flock.lift(balloon);
            case 4: return flock.wanted(balloon);
            case 5: return flock.heights[balloon];
            case 6: return flock.heightByString(balloon);
            case 7: return now.drifts[balloon];
            case 8: return now.hours - now.tunedAt[balloon];
            case 9: return now.tells(balloon);
            case 10: return flock.stringStart(balloon);
            default: return flock.stringSize(balloon);
        }
    }

    public int ribbon(int ribbon, int what) throws IndexOutOfBoundsException, IllegalArgumentException {
        checkRibbon(ribbon);
        checkRange(what, 0, 4);
        Flock flock = now.flock;
        switch (what) {
            case 0: return flock.tied[ribbon] ? 1 : 0;
            case 1: return flock.lengths[ribbon];
            case 2: return flock.bears[ribbon];
            case 3: return flock.pull(ribbon);
            default: return flock.wouldSnap(ribbon) ? 1 : 0;
        }
    }

    public int noted(int rank, int what) throws IndexOutOfBoundsException, IllegalArgumentException {
        if (rank < 0) {
            throw new IndexOutOfBoundsException("the rank is below 0");
        }
        checkRange(what, 0, 2);
        return now.notes.tell(rank, what);
    }

    public int count(int what) throws IllegalArgumentException {
        checkRange(what, 0, 14);
        switch (what) {
            case 0: return now.hours;
            case 1: return now.flock.allGas();
            case 2: return BALLOONS * FIRST_GAS + now.filled - now.leaked - now.vented;
            case 3: return now.filled;
            case 4: return now.leaked;
            case 5: return now.vented;
            case 6: return now.flock.tiedRibbons();
            case 7: return now.snapped;
            case 8: return BALLOONS - now.flock.tiedRibbons();
            case 9: return now.flock.allHeights();
            case 10: return now.flock.highest();
            case 11: return now.flock.grounded();
            case 12: return now.dropped;
            case 13: return now.notes.size;
            default: return history.size;
        }
    }

    public int why(int which, int deed) throws IndexOutOfBoundsException, IllegalArgumentException {
        checkBalloon(which);
        if (deed == TIE || deed == CUT) {
            checkRibbon(which);
        }
        checkRange(deed, FILL, CUT);
        return now.flock.whyNot(deed, which, deed == TIE ? 100 : 1);
    }

    public int stopped(int what) throws IllegalArgumentException {
        checkRange(what, 0, 1);
        return what == 0 ? now.stopPart : now.stopWhy;
    }

    // ---- what would be; nothing is changed

    public int ifDropped(int balloon, int what) throws IndexOutOfBoundsException, IllegalArgumentException {
        checkBalloon(balloon);
        checkRange(what, 0, 2);
        if (now.flock.bags[balloon] == 0) {
            return NONE;
        }
        trial.copyFrom(now.flock);
        trial.bags[balloon]--;
        trial.mendHeights();
        switch (what) {
            case 0: return trial.heights[balloon];
            case 1: return trial.allHeights();
            default: return trial.ribbonsThatWouldSnap();
        }
    }

    public int landsIn(int balloon) throws IndexOutOfBoundsException {
        checkBalloon(balloon);
        forecast.lookAhead(now.flock);
        return forecast.landings[balloon];
    }

    public int snapsIn() {
        forecast.lookAhead(now.flock);
        return forecast.firstSnap;
    }

    public int bestBag() {
        int best = NONE;
        int bestSum = NONE;
        for (int b = 0; b < BALLOONS; b++) {
            int sum = ifDropped(b, 1);
            if (sum > bestSum) {
                best = b;
                bestSum = sum;
            }
        }
        return best;
    }

    public double meanHeight() {
        return (double) now.flock.allHeights() / 8.0;
    }

    public float lostShare() {
        return (float) (now.leaked + now.vented) / (float) (BALLOONS * FIRST_GAS + now.filled);
    }

    public long digest() {
        long hash = 3821L;
        for (int what = 0; what <= 14; what++) {
            hash = mix(hash, count(what));
        }
        forecast.lookAhead(now.flock);
        for (int b = 0; b < BALLOONS; b++) {
            hash = mixBalloon(hash, b);
        }
        for (int r = 0; r < RIBBONS; r++) {
            hash = mixRibbon(hash, r);
        }
        hash = mixNotes(hash);
        hash = mix(hash, now.stopPart);
        hash = mix(hash, now.stopWhy);
        hash = mix(hash, forecast.firstSnap);
        hash = mix(hash, bestBag());
        hash = mix(hash, doubleBits(meanHeight()));
        hash = mix(hash, floatBits(lostShare()));
        hash = mix(hash, hasSnapshot ? 1 : 0);
        return mixText(hash);
    }

    // ---- parts of the methods above

    private static void checkBalloon(int balloon) {
        if (balloon < 0 || balloon >= BALLOONS) {
            throw new IndexOutOfBoundsException("there is no such balloon");
        }
    }

    private static void checkRibbon(int ribbon) {
        if (ribbon < 0 || ribbon >= RIBBONS) {
            throw new IndexOutOfBoundsException("there is no such ribbon");
        }
    }

    private static void checkRange(int number, int least, int most) {
        if (number < least || number > most) {
            throw new IllegalArgumentException("a number is out of range");
        }
    }

    private void perform(int deed, int which, int amount) {
        if (now.flock.whyNot(deed, which, amount) != 0) {
            throw new IllegalStateException("it can not be done");
        }
        history.save(now);
        now.carryOut(deed, which, amount);
    }

    /** Answers why the part can not be done, 0 if it is done now. */
    private int workPart(int start, int end) {
        int which = text.number(start + 1, start + 2);
        switch (text.code(start)) {
            case 'f': return attempt(FILL, which, text.number(start + 2, end));
            case 'v': return attempt(VENT, which, text.number(start + 2, end));
            case 'd': return attempt(DROP, which, 1);
            case 'p': return attempt(PUT, which, 1);
            case 'c': return attempt(CUT, which, 0);
            case 'n':
                now.writeNote(which);
                return 0;
            default:
                now.passHours(text.number(start + 1, end));
                return 0;
        }
    }

    private int attempt(int deed, int which, int amount) {
        int reason = now.flock.whyNot(deed, which, amount);
        if (reason == 0) {
            now.carryOut(deed, which, amount);
        }
        return reason;
    }

    private static long mix(long hash, long value) {
        return 31L * hash + value;
    }

    // The forecast has to have looked ahead before: one look serves all balloons.
    private long mixBalloon(long start, int b) {
        long hash = start;
        for (int what = 0; what <= 11; what++) {
            hash = mix(hash, balloon(b, what));
        }
        for (int deed = FILL; deed <= PUT; deed++) {
            hash = mix(hash, why(b, deed));
        }
        for (int what = 0; what <= 2; what++) {
            hash = mix(hash, ifDropped(b, what));
        }
        return mix(hash, forecast.landings[b]);
    }

    private long mixRibbon(long start, int r) {
        long hash = start;
        for (int what = 0; what <= 4; what++) {
            hash = mix(hash, ribbon(r, what));
        }
        hash = mix(hash, why(r, TIE));
        return mix(hash, why(r, CUT));
    }

    private long mixNotes(long start) {
        long hash = start;
        for (int rank = 0; rank < now.notes.size; rank++) {
            for (int what = 0; what <= 2; what++) {
                hash = mix(hash, now.notes.tell(rank, what));
            }
        }
        return hash;
    }

    private long mixText(long start) {
        long hash = mix(start, text.length);
        for (int at = 0; at < text.length; at++) {
            hash = mix(hash, text.code(at));
        }
        return hash;
    }

    // The library's own bits are outside LANGUAGE.md (rule 4). No number here is below 0, and
    // halving and doubling are exact.
    private static long doubleBits(double number) {
        if (number <= 0.0) {
            return 0L;
        }
        double mantissa = number;
        int exponent = 0;
        for (; mantissa >= 2.0 && exponent < 1023; exponent++) {
            mantissa = mantissa / 2.0;
        }
        for (; mantissa < 1.0 && exponent > -1022; exponent--) {
            mantissa = mantissa * 2.0;
        }
        return ((long) (exponent + 1023) << 52) + (long) ((mantissa - 1.0) * 4503599627370496.0);
    }

    // Only for shares, which are 1 at most.
    private static int floatBits(float share) {
        if (share <= 0.0f) {
            return 0;
        }
        float mantissa = share;
        int exponent = 0;
        for (; mantissa < 1.0f && exponent > -126; exponent--) {
            mantissa = mantissa * 2.0f;
        }
        return ((exponent + 127) << 23) + (int) ((mantissa - 1.0f) * 8388608.0f);
    }

    /** The balloons and ribbons: all on which heights and pulls stand. */
    private static final class Flock {
        final int[] gas = new int[BALLOONS];
        final int[] bags = new int[BALLOONS];
        final int[] leaks = new int[BALLOONS];
        final boolean[] tied = new boolean[RIBBONS];
        final int[] lengths = new int[RIBBONS];
        final int[] bears = new int[RIBBONS];
        // Always mended: who changes gas, bags or ties mends them at once.
        final int[] heights = new int[BALLOONS];

        Flock() {
            Arrays.fill(gas, FIRST_GAS);
            Arrays.fill(bags, FIRST_BAGS);
            Arrays.fill(leaks, FIRST_LEAK);
            for (int r = 0; r < RIBBONS; r++) {
                tied[r] = true;
            }
            Arrays.fill(lengths, FIRST_LENGTH);
            Arrays.fill(bears, FIRST_PULL);
            mendHeights();
        }

        void copyFrom(Flock other) {
            System.arraycopy(other.gas, 0, gas, 0, BALLOONS);
            System.arraycopy(other.bags, 0, bags, 0, BALLOONS);
            System.arraycopy(other.leaks, 0, leaks, 0, BALLOONS);
            System.arraycopy(other.tied, 0, tied, 0, RIBBONS);
            System.arraycopy(other.lengths, 0, lengths, 0, RIBBONS);
            System.arraycopy(other.bears, 0, bears, 0, RIBBONS);
            System.arraycopy(other.heights, 0, heights, 0, BALLOONS);
        }

        int lift(int b) {
            return gas[b] - 10 - 5 * bags[b];
        }

        int wanted(int b) {
            int height = 10 * lift(b);
            return Math.max(0, Math.min(MOST_HEIGHT, height));
        }

        // One way there and one way back are enough: who comes down on the way back comes down to
        // no less than the neighbour that has just been passed, so that no ribbon gets too short
        // again.
        void mendHeights() {
            for (int b = 0; b < BALLOONS; b++) {
                heights[b] = wanted(b);
            }
            for (int r = 0; r < RIBBONS; r++) {
                comeDown(r + 1, r, r);
            }
            for (int r = RIBBONS - 1; r >= 0; r--) {
                comeDown(r, r + 1, r);
            }
        }

        private void comeDown(int b, int neighbour, int r) {
            if (tied[r]) {
                heights[b] = Math.min(heights[b], heights[neighbour] + lengths[r]);
            }
        }

        int heightByString(int b) {
            int least = wanted(b);
            int way = 0;
            for (int r = b - 1; r >= 0 && tied[r]; r--) {
                way += lengths[r];
                least = Math.min(least, wanted(r) + way);
            }
            way = 0;
            for (int r = b; r < RIBBONS && tied[r]; r++) {
                way += lengths[r];
                least = Math.min(least, wanted(r + 1) + way);
            }
            return least;
        }

        int stringStart(int b) {
            int start = b;
            while (start > 0 && tied[start - 1]) {
                start--;
            }
            return start;
        }

        int stringSize(int b) {
            int end = b;
            while (end < RIBBONS && tied[end]) {
                end++;
            }
            return end - stringStart(b) + 1;
        }

        int pull(int r) {
            if (!tied[r]) {
                return 0;
            }
            int upper = upperEnd(r);
            int lower = upper == r ? r + 1 : r;
            if (heights[upper] - heights[lower] != lengths[r]) {
                return 0;
            }
            return wanted(upper) - heights[upper];
        }

        private int upperEnd(int r) {
            if (lengths[r] == 0) {
                return wanted(r + 1) > wanted(r) ? r + 1 : r;
            }
            return heights[r + 1] > heights[r] ? r + 1 : r;
        }

        boolean wouldSnap(int r) {
            return pull(r) > bears[r];
        }

        int ribbonsThatWouldSnap() {
            int sum = 0;
            for (int r = 0; r < RIBBONS; r++) {
                sum += wouldSnap(r) ? 1 : 0;
            }
            return sum;
        }

        /** Answers how much gas leaked. */
        int leakHour() {
            int sum = 0;
            for (int b = 0; b < BALLOONS; b++) {
                int lost = Math.min(gas[b], leaks[b]);
                gas[b] -= lost;
                sum += lost;
            }
            mendHeights();
            return sum;
        }

        /** Answers how many ribbons snap: 0 or 1. */
        int snapHour() {
            int weakest = NONE;
            int greatest = 0;
            for (int r = 0; r < RIBBONS; r++) {
                int pull = pull(r);
                if (pull > bears[r] && pull > greatest) {
                    weakest = r;
                    greatest = pull;
                }
            }
            if (weakest == NONE) {
                return 0;
            }
            tied[weakest] = false;
            mendHeights();
            return 1;
        }

        /** Answers why a deed can not be done: 0 if it can be, otherwise 1 to 9. */
        int whyNot(int deed, int which, int amount) {
            switch (deed) {
                case FILL:
                    if (gas[which] + amount > MOST_GAS) {
                        return 1;
                    }
                    return heights[which] > 0 ? 2 : 0;
                case VENT:
                    return gas[which] < amount ? 3 : 0;
                case DROP:
                    return bags[which] == 0 ? 4 : 0;
                case PUT:
                    if (bags[which] >= MOST_BAGS) {
                        return 5;
                    }
                    return heights[which] > 0 ? 6 : 0;
                case TIE:
                    return whyNotTie(which, amount);
                default:
                    return tied[which] ? 0 : 9;
            }
        }

        private int whyNotTie(int r, int length) {
            if (tied[r]) {
                return 7;
            }
            return Math.abs(heights[r] - heights[r + 1]) > length ? 8 : 0;
        }

        int allGas() {
            int sum = 0;
            for (int b = 0; b < BALLOONS; b++) {
                sum += gas[b];
            }
            return sum;
        }

        int allHeights() {
            int sum = 0;
            for (int b = 0; b < BALLOONS; b++) {
                sum += heights[b];
            }
            return sum;
        }

        int tiedRibbons() {
            int sum = 0;
            for (int r = 0; r < RIBBONS; r++) {
                sum += tied[r] ? 1 : 0;
            }
            return sum;
        }

        int highest() {
            int best = 0;
            for (int b = 1; b < BALLOONS; b++) {
                best = heights[b] > heights[best] ? b : best;
            }
            return best;
        }

        int grounded() {
            int sum = 0;
            for (int b = 0; b < BALLOONS; b++) {
                sum += heights[b] == 0 ? 1 : 0;
            }
            return sum;
        }
    }

    /** What altimeters told, the oldest first. */
    private static final class Notes {
        final int[] balloons = new int[MOST_NOTES];
        final int[] hours = new int[MOST_NOTES];
        final int[] tellings = new int[MOST_NOTES];
        int size = 0;

        void copyFrom(Notes other) {
            System.arraycopy(other.balloons, 0, balloons, 0, MOST_NOTES);
            System.arraycopy(other.hours, 0, hours, 0, MOST_NOTES);
            System.arraycopy(other.tellings, 0, tellings, 0, MOST_NOTES);
            size = other.size;
        }

        void write(int b, int hour, int telling) {
            int place = placeOf(b, hour);
            if (place == size) {
                place = newPlace();
            }
            balloons[place] = b;
            hours[place] = hour;
            tellings[place] = telling;
        }

        /** Answers the place of the note of that balloon and hour, the size if there is none. */
        private int placeOf(int b, int hour) {
            for (int place = 0; place < size; place++) {
                if (balloons[place] == b && hours[place] == hour) {
                    return place;
                }
            }
            return size;
        }

        private int newPlace() {
            if (size < MOST_NOTES) {
                size++;
                return size - 1;
            }
            System.arraycopy(balloons, 1, balloons, 0, MOST_NOTES - 1);
            System.arraycopy(hours, 1, hours, 0, MOST_NOTES - 1);
            System.arraycopy(tellings, 1, tellings, 0, MOST_NOTES - 1);
            return MOST_NOTES - 1;
        }

        int tell(int rank, int what) {
            if (rank >= size) {
                return NONE;
            }
            switch (what) {
                case 0: return balloons[rank];
                case 1: return hours[rank];
                default: return tellings[rank];
            }
        }
    }

    /** All that undo() restores. */
    private static final class State {
        final Flock flock = new Flock();
        final Notes notes = new Notes();
        final int[] drifts = new int[BALLOONS];
        final int[] tunedAt = new int[BALLOONS];
        int hours = 0;
        int filled = 0;
        int leaked = 0;
        int vented = 0;
        int snapped = 0;
        int dropped = 0;
        int stopPart = NONE;
        int stopWhy = NONE;

        void copyFrom(State other) {
            flock.copyFrom(other.flock);
            notes.copyFrom(other.notes);
            System.arraycopy(other.drifts, 0, drifts, 0, BALLOONS);
            System.arraycopy(other.tunedAt, 0, tunedAt, 0, BALLOONS);
            hours = other.hours;
            filled = other.filled;
            leaked = other.leaked;
            vented = other.vented;
            snapped = other.snapped;
            dropped = other.dropped;
            stopPart = other.stopPart;
            stopWhy = other.stopWhy;
        }

        int tells(int b) {
            return flock.heights[b] + drifts[b] * (hours - tunedAt[b]) / 4;
        }

        void writeNote(int b) {
            notes.write(b, hours, tells(b));
        }

        void passHours(int number) {
            for (int hour = 0; hour < number; hour++) {
                hours++;
                leaked += flock.leakHour();
                snapped += flock.snapHour();
            }
        }

        /** Does a deed for which there is no reason against. */
        void carryOut(int deed, int which, int amount) {
            switch (deed) {
                case FILL:
                    flock.gas[which] += amount;
                    filled += amount;
                    break;
                case VENT:
                    flock.gas[which] -= amount;
                    vented += amount;
                    break;
                case DROP:
                    flock.bags[which]--;
                    dropped++;
                    break;
                case PUT:
                    flock.bags[which]++;
                    break;
                case TIE:
                    flock.tied[which] = true;
                    flock.lengths[which] = amount;
                    break;
                default:
                    flock.tied[which] = false;
                    break;
            }
            flock.mendHeights();
        }
    }

    /** The saved states, the oldest first. */
    private static final class History {
        private final State[] saved = new State[MOST_SAVED];
        int size = 0;

        History() {
            for (int place = 0; place < MOST_SAVED; place++) {
                saved[place] = new State();
            }
        }

        void save(State state) {
            if (size >= MOST_SAVED) {
                forgetOldest();
            }
            saved[size].copyFrom(state);
            size++;
        }

        // The oldest one's rows come to the end, to be written anew.
        private void forgetOldest() {
            State oldest = saved[0];
            for (int place = 1; place < MOST_SAVED; place++) {
                saved[place - 1] = saved[place];
            }
            saved[MOST_SAVED - 1] = oldest;
            size = MOST_SAVED - 1;
        }

        void restore(State state) {
            if (size > 0) {
                size--;
                state.copyFrom(saved[size]);
            }
        }
    }

    /** The buffer, and how it is read. */
    private static final class Text {
        // What has been read of a part decides what may follow.
        private static final int WRONG = 0;
        private static final int PART_OPEN = 1;
        private static final int GAS_BALLOON_DUE = 2;
        private static final int BALLOON_DUE = 3;
        private static final int RIBBON_DUE = 4;
        private static final int NUMBER_DUE = 5;
        private static final int DIGIT_MAY_FOLLOW = 6;
        private static final int PART_CLOSED = 7;

        private final int[] codes = new int[MOST_CHARACTERS];
        int length = 0;

        void add(int code) {
            if (length < MOST_CHARACTERS) {
                codes[length] = code;
                length++;
            }
        }

        /** Answers 0, which is no character of a text, where there is none. */
        int code(int at) {
            return at >= 0 && at < length ? codes[at] : 0;
        }

        int errorPlace() {
            int reading = PART_OPEN;
            for (int at = 0; at < length; at++) {
                reading = readOn(reading, codes[at]);
                if (reading == WRONG) {
                    return at;
                }
            }
            return length;
        }

        boolean isComplete() {
            int reading = PART_OPEN;
            for (int at = 0; at < length; at++) {
                reading = readOn(reading, codes[at]);
            }
            return reading == DIGIT_MAY_FOLLOW || reading == PART_CLOSED;
        }

        private static int readOn(int reading, int code) {
            switch (reading) {
                case PART_OPEN:
                    return readLetter(code);
                case GAS_BALLOON_DUE:
                    return code >= '0' && code <= '7' ? NUMBER_DUE : WRONG;
                case BALLOON_DUE:
                    return code >= '0' && code <= '7' ? PART_CLOSED : WRONG;
                case RIBBON_DUE:
                    return code >= '0' && code <= '6' ? PART_CLOSED : WRONG;
                case NUMBER_DUE:
                    return code >= '1' && code <= '9' ? DIGIT_MAY_FOLLOW : WRONG;
                case DIGIT_MAY_FOLLOW:
                    if (code >= '0' && code <= '9') {
                        return PART_CLOSED;
                    }
                    return code == ';' ? PART_OPEN : WRONG;
                case PART_CLOSED:
                    return code == ';' ? PART_OPEN : WRONG;
                default:
                    return WRONG;
            }
        }

        private static int readLetter(int code) {
            switch (code) {
                case 'f':
                case 'v':
                    return GAS_BALLOON_DUE;
                case 'd':
                case 'p':
                case 'n':
                    return BALLOON_DUE;
                case 'c':
                    return RIBBON_DUE;
                case 'h':
                    return NUMBER_DUE;
                default:
                    return WRONG;
            }
        }

        boolean endsPart(int at) {
            return at == length || code(at) == ';';
        }

        int number(int start, int end) {
            int number = 0;
            for (int at = start; at < end; at++) {
                number = 10 * number + code(at) - '0';
            }
            return number;
        }
    }

    /** What the hours to come bring, if nothing else is done. */
    private static final class Forecast {
        private final Flock flock = new Flock();
        final int[] landings = new int[BALLOONS];
        int firstSnap = NONE;

        void lookAhead(Flock from) {
            flock.copyFrom(from);
            Arrays.fill(landings, NONE);
            firstSnap = NONE;
            markLandings(0);
            // An hour in which nothing leaks and nothing snaps leaves all as it is, and so do all
            // hours behind it.
            boolean goesOn = true;
            for (int hour = 1; hour <= HOURS_AHEAD && goesOn; hour++) {
                int leaked = flock.leakHour();
                int snaps = flock.snapHour();
                if (snaps > 0 && firstSnap == NONE) {
                    firstSnap = hour;
                }
                markLandings(hour);
                goesOn = leaked > 0 || snaps > 0;
            }
        }

        private void markLandings(int hour) {
            for (int b = 0; b < BALLOONS; b++) {
                if (flock.heights[b] == 0 && landings[b] == NONE) {
                    landings[b] = hour;
                }
            }
        }
    }
}
