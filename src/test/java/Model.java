import java.util.ArrayList;
import java.util.List;
import java.util.regex.Matcher;
import java.util.regex.Pattern;

/** The document, written down in another and slower way than the class: lists, copies and full searches. */
final class Model {
    private static final int NONE = -1000;
    private static final String PART = "([fv][0-7][1-9][0-9]?|[dpn][0-7]|c[0-6]|h[1-9][0-9]?)";
    private static final Pattern WORK = Pattern.compile(PART + "(;" + PART + ")*");

    /** What undo restores. */
    private static final class World {
        int[] gas = {60, 60, 60, 60, 60, 60, 60, 60};
        int[] bags = {4, 4, 4, 4, 4, 4, 4, 4};
        int[] leak = {1, 1, 1, 1, 1, 1, 1, 1};
        int[] drift = new int[8];
        int[] since = new int[8];
        int[] tied = {1, 1, 1, 1, 1, 1, 1};
        int[] length = {100, 100, 100, 100, 100, 100, 100};
        int[] bears = {150, 150, 150, 150, 150, 150, 150};
        List<int[]> notes = new ArrayList<>();
        int hours;
        int filled;
        int leaked;
        int vented;
        int snapped;
        int dropped;
        int stopPart = NONE;
        int stopWhy = NONE;

        World copy() {
            World c = new World();
            c.gas = gas.clone();
            c.bags = bags.clone();
            c.leak = leak.clone();
            c.drift = drift.clone();
            c.since = since.clone();
            c.tied = tied.clone();
            c.length = length.clone();
            c.bears = bears.clone();
            for (int[] note : notes) {
                c.notes.add(note.clone());
            }
            c.hours = hours;
            c.filled = filled;
            c.leaked = leaked;
            c.vented = vented;
            c.snapped = snapped;
            c.dropped = dropped;
            c.stopPart = stopPart;
            c.stopWhy = stopWhy;
            return c;
        }

        int wants(int b) {
            int h = 10 * (gas[b] - 10 - 5 * bags[b]);
            return h > 999 ? 999 : h < 0 ? 0 : h;
        }

        /** Lowers each height by 1 as long as it breaks a property: what is left are the greatest heights. */
        int[] heights() {
            int[] h = new int[8];
            for (int b = 0; b < 8; b++) {
                h[b] = wants(b);
            }
            boolean again = true;
            while (again) {
                again = false;
                for (int r = 6; r >= 0; r--) {
                    if (tied[r] == 1 && Math.abs(h[r] - h[r + 1]) > length[r]) {
                        h[h[r] > h[r + 1] ? r : r + 1]--;
                        again = true;
                    }
                }
            }
            return h;
        }

        int all() {
            int sum = 0;
            for (int h : heights()) {
                sum += h;
            }
            return sum;
        }

        int pull(int r) {
            int[] h = heights();
            if (tied[r] == 0 || Math.abs(h[r] - h[r + 1]) != length[r]) {
                return 0;
            }
            int high = r;
            if (length[r] == 0 ? wants(r + 1) > wants(r) : h[r + 1] > h[r]) {
                high = r + 1;
            }
            return Math.max(0, wants(high) - h[high]);
        }

        int tells(int b) {
            int product = drift[b] * since[b];
            int quarter = product < 0 ? -(-product / 4) : product / 4;
            return heights()[b] + quarter;
        }

        void note(int b) {
            int[] made = {b, hours, tells(b)};
            for (int[] note : notes) {
                if (note[0] == b && note[1] == hours) {
                    note[2] = made[2];
                    return;
                }
            }
            notes.add(made);
            if (notes.size() > 20) {
                notes.remove(0);
            }
        }

        void hour() {
            hours++;
            for (int b = 0; b < 8; b++) {
                since[b]++;
                for (int drop = 0; drop < leak[b]; drop++) {
                    if (gas[b] > 0) {
                        gas[b]--;
                        leaked++;
                    }
                }
            }
            int snaps = -1;
            for (int r = 6; r >= 0; r--) {
                if (pull(r) > bears[r] && (snaps < 0 || pull(r) >= pull(snaps))) {
                    snaps = r;
                }
            }
            if (snaps >= 0) {
                tied[snaps] = 0;
                snapped++;
            }
        }

        int why(int which, int deed, int amount) {
            int[] h = heights();
            switch (deed) {
                case 0: return gas[which] + amount > 200 ? 1 : h[which] != 0 ? 2 : 0;
                case 1: return gas[which] - amount < 0 ? 3 : 0;
                case 2: return bags[which] < 1 ? 4 : 0;
                case 3: return bags[which] > 9 ? 5 : h[which] != 0 ? 6 : 0;
                case 4: return tied[which] == 1 ? 7 : Math.abs(h[which] - h[which + 1]) > amount ? 8 : 0;
                default: return tied[which] == 0 ? 9 : 0;
            }
        }

        int first(int b) {
            int first = b;
            for (int r = b - 1; r >= 0 && tied[r] == 1; r--) {
                first = r;
            }
            return first;
        }

        int size(int b) {
            int size = 0;
            for (int other = 0; other < 8; other++) {
                size += first(other) == first(b) ? 1 : 0;
            }
            return size;
        }

        int sum(int[] numbers) {
            int sum = 0;
            for (int number : numbers) {
                sum += number;
            }
            return sum;
        }
    }

    private World w = new World();
    private World kept = null;
    private final List<World> saved = new ArrayList<>();
    private String buffer = "";

    private void save() {
        saved.add(w.copy());
        if (saved.size() == 7) {
            saved.remove(0);
        }
    }

    private static void balloonDue(int b) {
        if (b < 0 || b > 7) {
            throw new IndexOutOfBoundsException();
        }
    }

    private static void ribbonDue(int r) {
        if (r < 0 || r > 6) {
            throw new IndexOutOfBoundsException();
        }
    }

    private static void due(boolean good) {
        if (!good) {
            throw new IllegalArgumentException();
        }
    }

    private static void stateDue(boolean good) {
        if (!good) {
            throw new IllegalStateException();
        }
    }

    int fill(int b, int gas) {
        balloonDue(b);
        due(gas >= 1 && gas <= 99);
        stateDue(w.why(b, 0, gas) == 0);
        save();
        w.filled += gas;
        return w.gas[b] += gas;
    }

    int vent(int b, int gas) {
        balloonDue(b);
        due(gas >= 1 && gas <= 99);
        stateDue(w.why(b, 1, gas) == 0);
        save();
        w.vented += gas;
        w.gas[b] -= gas;
        return w.heights()[b];
    }

    int drop(int b) {
        balloonDue(b);
        stateDue(w.why(b, 2, 1) == 0);
        save();
        w.dropped++;
        w.bags[b]--;
        return w.heights()[b];
    }

    int put(int b) {
        balloonDue(b);
        stateDue(w.why(b, 3, 1) == 0);
        save();
        return ++w.bags[b];
    }

    int leak(int b, int leak) {
        balloonDue(b);
        due(leak >= 0 && leak <= 9);
        save();
        int before = w.leak[b];
        w.leak[b] = leak;
        return before;
    }

    int tie(int r, int length) {
        ribbonDue(r);
        due(length >= 0 && length <= 300);
        stateDue(w.why(r, 4, length) == 0);
        save();
        w.tied[r] = 1;
        w.length[r] = length;
        return w.size(r);
    }

    int cut(int r) {
        ribbonDue(r);
        stateDue(w.why(r, 5, 0) == 0);
        save();
        int before = w.all();
        w.tied[r] = 0;
        return w.all() - before;
    }

    int bear(int r, int pull) {
        ribbonDue(r);
        due(pull >= 0 && pull <= 500);
        save();
        int before = w.bears[r];
        w.bears[r] = pull;
        return before;
    }

    int tune(int b, int drift) {
        balloonDue(b);
        due(drift >= -20 && drift <= 20);
        save();
        int before = w.tells(b);
        w.drift[b] = drift;
        w.since[b] = 0;
        return before;
    }

    int note(int b) {
        balloonDue(b);
        save();
        w.note(b);
        return w.tells(b);
    }

    int pass(int hours) {
        due(hours >= 1 && hours <= 99);
        save();
        int before = w.snapped;
        for (int hour = 0; hour < hours; hour++) {
            w.hour();
        }
        return w.snapped - before;
    }

    int append(int code) {
        due(code >= 33 && code <= 126);
        stateDue(buffer.length() < 60);
        buffer += (char) code;
        return buffer.length();
    }

    int clearBuffer() {
        int before = buffer.length();
        buffer = "";
        return before;
    }

    int firstError() {
        for (int length = 1; length <= buffer.length(); length++) {
            Matcher matcher = WORK.matcher(buffer.substring(0, length));
            if (!matcher.matches() && !matcher.hitEnd()) {
                return length - 1;
            }
        }
        return buffer.length();
    }

    int work() {
        due(WORK.matcher(buffer).matches());
        World before = w.copy();
        List<World> savedBefore = new ArrayList<>(saved);
        String[] parts = buffer.split(";");
        int stopPart = NONE;
        int stopWhy = NONE;
        int done = 0;
        for (String part : parts) {
            int why = whyNot(part);
            if (why != 0) {
                stopPart = done;
                stopWhy = why;
                break;
            }
            doPart(part);
            done++;
        }
        w.stopPart = stopPart;
        w.stopWhy = stopWhy;
        World after = w;
        saved.clear();
        saved.addAll(savedBefore);
        w = before;
        save();
        w = after;
        buffer = "";
        return done;
    }

    private int whyNot(String part) {
        int b = part.charAt(1) - '0';
        switch (part.charAt(0)) {
            case 'f': return w.why(b, 0, Integer.parseInt(part.substring(2)));
            case 'v': return w.why(b, 1, Integer.parseInt(part.substring(2)));
            case 'd': return w.why(b, 2, 1);
            case 'p': return w.why(b, 3, 1);
            case 'c': return w.why(b, 5, 0);
            default: return 0;
        }
    }

    private void doPart(String part) {
        int b = part.charAt(1) - '0';
        switch (part.charAt(0)) {
            case 'f': fill(b, Integer.parseInt(part.substring(2))); break;
            case 'v': vent(b, Integer.parseInt(part.substring(2))); break;
            case 'd': drop(b); break;
            case 'p': put(b); break;
            case 'c': cut(b); break;
            case 'n': note(b); break;
            default: pass(Integer.parseInt(part.substring(1))); break;
        }
    }

    int keep() {
        kept = w.copy();
        return w.hours;
    }

    int goBack() {
        stateDue(kept != null);
        save();
        w = kept.copy();
        return w.hours;
    }

    int undo() {
        stateDue(!saved.isEmpty());
        w = saved.remove(saved.size() - 1);
        return saved.size();
    }

    int balloon(int b, int what) {
        balloonDue(b);
        due(what >= 0 && what <= 11);
        int[] answers = {w.gas[b], w.bags[b], w.leak[b], w.gas[b] - 10 - 5 * w.bags[b], w.wants(b), w.heights()[b],
            w.heights()[b], w.drift[b], w.since[b], w.tells(b), w.first(b), w.size(b)};
        return answers[what];
    }

    int ribbon(int r, int what) {
        ribbonDue(r);
        due(what >= 0 && what <= 4);
        int[] answers = {w.tied[r], w.length[r], w.bears[r], w.pull(r), w.pull(r) > w.bears[r] ? 1 : 0};
        return answers[what];
    }

    int noted(int rank, int what) {
        if (rank < 0) {
            throw new IndexOutOfBoundsException();
        }
        due(what >= 0 && what <= 2);
        return rank < w.notes.size() ? w.notes.get(rank)[what] : NONE;
    }

    int count(int what) {
        due(what >= 0 && what <= 14);
        int[] h = w.heights();
        int highest = 0;
        int grounded = 0;
        int strings = 0;
        for (int b = 7; b >= 0; b--) {
            highest = h[b] >= h[highest] ? b : highest;
            grounded += h[b] == 0 ? 1 : 0;
            strings += w.first(b) == b ? 1 : 0;
        }
        int[] answers = {w.hours, w.sum(w.gas), 480 + w.filled - w.leaked - w.vented, w.filled, w.leaked, w.vented,
            w.sum(w.tied), w.snapped, strings, w.all(), highest, grounded, w.dropped, w.notes.size(), saved.size()};
        return answers[what];
    }

    int why(int which, int deed) {
        balloonDue(which);
        if (deed == 4 || deed == 5) {
            ribbonDue(which);
        }
        due(deed >= 0 && deed <= 5);
        return w.why(which, deed, deed == 4 ? 100 : 1);
    }

    int stopped(int what) {
        due(what == 0 || what == 1);
        return what == 0 ? w.stopPart : w.stopWhy;
    }

    int ifDropped(int b, int what) {
        balloonDue(b);
        due(what >= 0 && what <= 2);
        if (w.bags[b] == 0) {
            return NONE;
        }
        World then = w.copy();
        then.bags[b]--;
        if (what == 2) {
            int snaps = 0;
            for (int r = 0; r < 7; r++) {
                snaps += then.pull(r) > then.bears[r] ? 1 : 0;
            }
            return snaps;
        }
        return what == 0 ? then.heights()[b] : then.all();
    }

    int landsIn(int b) {
        balloonDue(b);
        World then = w.copy();
        for (int hours = 0; hours <= 200; hours++) {
            if (then.heights()[b] == 0) {
                return hours;
            }
            then.hour();
        }
        return NONE;
    }

    int snapsIn() {
        World then = w.copy();
        for (int hours = 1; hours <= 200; hours++) {
            then.hour();
            if (then.snapped > w.snapped) {
                return hours;
            }
        }
        return NONE;
    }

    int bestBag() {
        int best = NONE;
        for (int b = 0; b < 8; b++) {
            if (w.bags[b] > 0 && (best == NONE || ifDropped(b, 1) > ifDropped(best, 1))) {
                best = b;
            }
        }
        return best;
    }

    double meanHeight() {
        return w.all() / 8.0;
    }

    float lostShare() {
        return (float) (w.leaked + w.vented) / (480 + w.filled);
    }

    long digest() {
        List<Long> v = new ArrayList<>();
        for (int what = 0; what < 15; what++) {
            v.add((long) count(what));
        }
        for (int b = 0; b < 8; b++) {
            for (int what = 0; what < 12; what++) {
                v.add((long) balloon(b, what));
            }
            for (int deed = 0; deed < 4; deed++) {
                v.add((long) why(b, deed));
            }
            for (int what = 0; what < 3; what++) {
                v.add((long) ifDropped(b, what));
            }
            v.add((long) landsIn(b));
        }
        for (int r = 0; r < 7; r++) {
            for (int what = 0; what < 5; what++) {
                v.add((long) ribbon(r, what));
            }
            v.add((long) why(r, 4));
            v.add((long) why(r, 5));
        }
        for (int[] note : w.notes) {
            for (int number : note) {
                v.add((long) number);
            }
        }
        v.add((long) w.stopPart);
        v.add((long) w.stopWhy);
        v.add((long) snapsIn());
        v.add((long) bestBag());
        v.add(Double.doubleToLongBits(meanHeight()));
        v.add((long) Float.floatToIntBits(lostShare()));
        v.add(kept != null ? 1L : 0L);
        v.add((long) buffer.length());
        for (char code : buffer.toCharArray()) {
            v.add((long) code);
        }
        long hash = 3821;
        for (long value : v) {
            hash = 31 * hash + value;
        }
        return hash;
    }
}
