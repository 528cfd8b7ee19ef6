/** Long runs of calls, each call made of the class and of the model; the numbers come from a fixed row. */
public final class ModelTests {
    private static final int RUNS = 1500;
    // The document promises nothing behind the 512th call of an object.
    private static final int CALLS = 512;

    private final RibbonBalloons x = new RibbonBalloons();
    private final Model m = new Model();
    private final int run;
    private long row;
    private int calls = 0;

    private ModelTests(int run) {
        this.run = run;
        this.row = 1000003L * run + 17;
    }

    private int any(int bound) {
        row = row * 6364136223846793005L + 1442695040888963407L;
        return (int) ((row >>> 33) % bound);
    }

    /** Mostly from least to most, now and then outside. */
    private int near(int least, int most) {
        switch (any(40)) {
            case 0: return least - 1 - any(3);
            case 1: return most + 1 + any(3);
            case 2: return any(2) == 0 ? Integer.MIN_VALUE : Integer.MAX_VALUE;
            case 3: return least;
            case 4: return most;
            default: return least + any(most - least + 1);
        }
    }

    private int gas() {
        return any(3) == 0 ? near(1, 99) : 1 + any(60);
    }

    private static long outcome(Checks.Call call) {
        try {
            return call.answer();
        } catch (RuntimeException caught) {
            if (caught.getClass() == IndexOutOfBoundsException.class) {
                return Long.MIN_VALUE + 1;
            }
            if (caught.getClass() == IllegalArgumentException.class) {
                return Long.MIN_VALUE + 2;
            }
            if (caught.getClass() == IllegalStateException.class) {
                return Long.MIN_VALUE + 3;
            }
            return Long.MIN_VALUE;
        }
    }

    private void same(String what, Checks.Call got, Checks.Call want) {
        if (calls < CALLS) {
            calls++;
            Checks.due("run " + run + ", call " + calls + ": " + what, outcome(got), outcome(want));
        }
    }

    private String part() {
        int b = any(8);
        switch (any(9)) {
            case 0: return "f" + b + (1 + any(99));
            case 1: return "v" + b + (1 + any(40));
            case 2: return "d" + b;
            case 3: return "p" + b;
            case 4: return "c" + any(7);
            case 5: return "h" + (1 + any(12));
            case 6: return "h" + (1 + any(99));
            default: return "n" + b;
        }
    }

    private void type() {
        StringBuilder text = new StringBuilder();
        int parts = any(16) == 0 ? 20 : 1 + any(5);
        for (int part = 0; part < parts; part++) {
            text.append(part == 0 ? "" : ";").append(part());
        }
        if (any(5) == 0) {
            text.insert(any(text.length() + 1), (char) (33 + any(94)));
        } else if (any(5) == 0) {
            text.deleteCharAt(any(text.length()));
        } else if (any(5) == 0) {
            text.append("fvdpcnh;0123456789".charAt(any(18)));
        }
        if (any(3) > 0) {
            same("clearBuffer", () -> x.clearBuffer(), () -> m.clearBuffer());
        }
        for (char code : text.toString().toCharArray()) {
            same("append " + code, () -> x.append(code), () -> m.append(code));
        }
        same("firstError of " + text, () -> x.firstError(), () -> m.firstError());
        same("work of " + text, () -> x.work(), () -> m.work());
    }

    private void gasAndBags(int b) {
        int gas = gas();
        switch (any(5)) {
            case 0:
                same("vent", () -> x.vent(b, gas), () -> m.vent(b, gas));
                break;
            case 1:
                same("drop", () -> x.drop(b), () -> m.drop(b));
                break;
            case 2:
                same("put", () -> x.put(b), () -> m.put(b));
                break;
            default:
                same("fill", () -> x.fill(b, gas), () -> m.fill(b, gas));
                break;
        }
    }

    private void ribbonsAndRates(int b, int r) {
        int leak = near(0, any(2) == 0 ? 9 : 2);
        int length = any(3) == 0 ? 0 : near(0, 300);
        int pull = near(0, 500);
        int drift = near(-20, 20);
        switch (any(6)) {
            case 0:
                same("leak", () -> x.leak(b, leak), () -> m.leak(b, leak));
                break;
            case 1:
                same("cut", () -> x.cut(r), () -> m.cut(r));
                break;
            case 2:
                same("bear", () -> x.bear(r, pull), () -> m.bear(r, pull));
                break;
            case 3:
                same("tune", () -> x.tune(b, drift), () -> m.tune(b, drift));
                break;
            default:
                same("tie", () -> x.tie(r, length), () -> m.tie(r, length));
                break;
        }
    }

    private void hoursAndStates(int b) {
        int hours = any(8) == 0 ? near(1, 99) : 1 + any(4);
        switch (any(9)) {
            case 0:
            case 1:
                same("pass " + hours, () -> x.pass(hours), () -> m.pass(hours));
                break;
            case 2:
            case 3:
                same("note", () -> x.note(b), () -> m.note(b));
                break;
            case 4:
                same("keep", () -> x.keep(), () -> m.keep());
                break;
            case 5:
                same("goBack", () -> x.goBack(), () -> m.goBack());
                break;
            case 6:
                type();
                break;
            default:
                same("undo", () -> x.undo(), () -> m.undo());
                break;
        }
    }

    private void look(int b, int r) {
        int what = near(0, 11);
        int few = near(0, 2);
        int count = near(0, 14);
        int rank = near(0, 22);
        int deed = near(0, 5);
        same("balloon " + what, () -> x.balloon(b, what), () -> m.balloon(b, what));
        same("ribbon " + deed, () -> x.ribbon(r, deed), () -> m.ribbon(r, deed));
        same("noted " + few, () -> x.noted(rank, few), () -> m.noted(rank, few));
        same("count " + count, () -> x.count(count), () -> m.count(count));
        same("why " + deed, () -> x.why(b, deed), () -> m.why(b, deed));
        same("stopped " + few, () -> x.stopped(few), () -> m.stopped(few));
        same("ifDropped " + few, () -> x.ifDropped(b, few), () -> m.ifDropped(b, few));
        same("bestBag", () -> x.bestBag(), () -> m.bestBag());
        same("meanHeight", () -> Double.doubleToLongBits(x.meanHeight()),
            () -> Double.doubleToLongBits(m.meanHeight()));
        same("lostShare", () -> Float.floatToIntBits(x.lostShare()), () -> Float.floatToIntBits(m.lostShare()));
    }

    private void lookAhead(int b) {
        same("landsIn", () -> x.landsIn(b), () -> m.landsIn(b));
        same("snapsIn", () -> x.snapsIn(), () -> m.snapsIn());
        same("digest", () -> x.digest(), () -> m.digest());
    }

    private void play() {
        for (int step = 1; calls < CALLS; step++) {
            int b = near(0, 7);
            int r = near(0, 6);
            switch (any(5)) {
                case 0:
                case 1:
                    gasAndBags(b);
                    break;
                case 2:
                    ribbonsAndRates(b, r);
                    break;
                case 3:
                    hoursAndStates(b);
                    break;
                default:
                    look(b, r);
                    break;
            }
            if (step % 40 == 0) {
                lookAhead(near(0, 7));
            }
        }
    }

    public static void main(String[] args) {
        for (int run = 0; run < RUNS; run++) {
            new ModelTests(run).play();
        }
        Checks.end("ModelTests");
    }
}
