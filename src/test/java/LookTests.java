/** Promises 20 to 32: looks, what would be, the shares and the hash. */
public final class LookTests {
    private static final int NONE = RibbonBalloons.NONE;

    private LookTests() {
    }

    private static void promise20Balloon() {
        RibbonBalloons x = new RibbonBalloons();
        x.drop(2);
        x.leak(2, 3);
        x.pass(2);
        x.tune(2, -7);
        x.pass(1);
        x.cut(3);
        int[] due = {51, 3, 3, 26, 260, 260, 260, -7, 1, 259, 0, 4};
        for (int what = 0; what < 12; what++) {
            Checks.due("balloon(2, " + what + ")", x.balloon(2, what), due[what]);
        }
        Checks.due("string of 3", x.balloon(3, 10), 0);
        Checks.due("string of 4", x.balloon(4, 10), 4);
        Checks.due("balloons of 7's string", x.balloon(7, 11), 4);
        Checks.due("saves nothing", x.count(14), 6);
        Checks.index("balloon(-1, 12)", () -> x.balloon(-1, 12));
        Checks.index("balloon(8, 0)", () -> x.balloon(8, 0));
        Checks.argument("balloon(0, -1)", () -> x.balloon(0, -1));
        Checks.argument("balloon(0, 12)", () -> x.balloon(0, 12));
    }

    private static void heights(String when, RibbonBalloons x, int... due) {
        for (int b = 0; b < 8; b++) {
            Checks.due(when + ", mended height of " + b, x.balloon(b, 5), due[b]);
            Checks.due(when + ", height by string of " + b, x.balloon(b, 6), due[b]);
        }
    }

    private static void promise20Heights() {
        RibbonBalloons x = new RibbonBalloons();
        x.vent(3, 60);
        heights("one without gas", x, 300, 200, 100, 0, 100, 200, 300, 300);
        x.cut(5);
        x.tie(5, 300);
        x.vent(7, 20);
        x.drop(0);
        x.drop(0);
        heights("two strong ones at the end", x, 300, 200, 100, 0, 100, 200, 200, 100);
        x.cut(2);
        heights("cut", x, 400, 300, 300, 0, 100, 200, 200, 100);
        Checks.due("lift below 0", x.balloon(3, 3), -30);
        Checks.due("wanted is at least 0", x.balloon(3, 4), 0);
        x.cut(1);
        x.cut(0);
        heights("free", x, 400, 300, 300, 0, 100, 200, 200, 100);
    }

    private static void promise20Most999() {
        RibbonBalloons x = new RibbonBalloons();
        x.vent(0, 60);
        x.cut(0);
        x.fill(0, 30);
        for (int bag = 0; bag < 4; bag++) {
            x.drop(0);
        }
        Checks.due("lift 20", x.balloon(0, 3), 20);
        RibbonBalloons y = new RibbonBalloons();
        y.vent(0, 60);
        y.vent(1, 60);
        y.cut(1);
        y.cut(0);
        y.tie(0, 0);
        y.fill(1, 99);
        y.fill(1, 30);
        y.cut(0);
        Checks.due("lift 99", y.balloon(1, 3), 99);
        Checks.due("wanted 990", y.balloon(1, 4), 990);
        y.drop(1);
        Checks.due("lift 104", y.balloon(1, 3), 104);
        Checks.due("wanted is 999 at most", y.balloon(1, 4), 999);
        Checks.due("so is the height", y.balloon(1, 6), 999);
        Checks.due("the mean", (long) (y.meanHeight() * 1000), 349875);
    }

    private static void promise21Ribbon() {
        RibbonBalloons x = new RibbonBalloons();
        for (int bag = 0; bag < 4; bag++) {
            x.drop(0);
        }
        x.bear(0, 100);
        Checks.due("pull 100", x.ribbon(0, 3), 100);
        Checks.due("it bears 100", x.ribbon(0, 4), 0);
        x.bear(0, 99);
        Checks.due("it does not bear it", x.ribbon(0, 4), 1);
        x.cut(0);
        Checks.due("not tied", x.ribbon(0, 0), 0);
        Checks.due("its length that was", x.ribbon(0, 1), 100);
        Checks.due("it bears", x.ribbon(0, 2), 99);
        Checks.due("no pull", x.ribbon(0, 3), 0);
        Checks.due("no snap", x.ribbon(0, 4), 0);
        Checks.index("ribbon(-1, 5)", () -> x.ribbon(-1, 5));
        Checks.index("ribbon(7, 0)", () -> x.ribbon(7, 0));
        Checks.argument("ribbon(0, -1)", () -> x.ribbon(0, -1));
        Checks.argument("ribbon(0, 5)", () -> x.ribbon(0, 5));
    }

    private static void promise21Pull() {
        RibbonBalloons x = new RibbonBalloons();
        x.drop(1);
        x.drop(1);
        Checks.due("by just its length, but as high as wanted", x.ribbon(0, 3), 0);
        x.drop(1);
        Checks.due("held by the lower number", x.ribbon(0, 3), 50);
        Checks.due("held by the higher number", x.ribbon(1, 3), 50);
        Checks.due("not held at all", x.ribbon(2, 3), 0);
        x.vent(0, 1);
        Checks.due("held 10 lower", x.ribbon(0, 3), 60);
        Checks.due("that one does not hold any more", x.ribbon(1, 3), 0);
        x.bear(0, 0);
        x.vent(4, 60);
        Checks.due("pull along a string: 2", x.ribbon(2, 3), 100);
        Checks.due("pull along a string: 1", x.ribbon(1, 3), 150);
        Checks.due("not at its length", x.ribbon(0, 3), 0);
    }

    private static void promise21PullWithoutLength() {
        RibbonBalloons x = new RibbonBalloons();
        x.cut(0);
        x.cut(1);
        x.tie(0, 0);
        Checks.due("both want as much", x.ribbon(0, 3), 0);
        x.drop(1);
        Checks.due("the right one wants more", x.ribbon(0, 3), 50);
        x.drop(0);
        x.drop(0);
        Checks.due("the left one wants more", x.ribbon(0, 3), 50);
        x.drop(1);
        Checks.due("both want as much", x.ribbon(0, 3), 0);
        x.vent(2, 20);
        x.tie(1, 300);
        x.vent(2, 10);
        Checks.due("like ones, both held", x.balloon(0, 6), 300);
        Checks.due("it is by how much the left one wants more", x.ribbon(0, 3), 100);
        Checks.due("so is the next", x.ribbon(1, 3), 100);
    }

    private static void promise22Noted() {
        RibbonBalloons x = new RibbonBalloons();
        x.pass(4);
        x.note(6);
        x.tune(6, 20);
        x.pass(1);
        x.note(6);
        int[][] due = {{6, 4, 260}, {6, 5, 255}};
        for (int rank = 0; rank < 2; rank++) {
            for (int what = 0; what < 3; what++) {
                Checks.due("noted(" + rank + ", " + what + ")", x.noted(rank, what), due[rank][what]);
            }
        }
        Checks.due("not so many", x.noted(2, 0), NONE);
        Checks.due("by far not so many", x.noted(Integer.MAX_VALUE, 2), NONE);
        Checks.index("noted(-1, 3)", () -> x.noted(-1, 3));
        Checks.argument("noted(0, 3)", () -> x.noted(0, 3));
        Checks.argument("noted(2, -1)", () -> x.noted(2, -1));
    }

    private static void promise23Count() {
        RibbonBalloons x = new RibbonBalloons();
        x.vent(5, 55);
        x.fill(5, 7);
        x.leak(5, 9);
        for (int bag = 0; bag < 4; bag++) {
            x.drop(6);
        }
        x.cut(1);
        x.bear(4, 500);
        x.bear(5, 0);
        x.pass(2);
        x.note(0);
        x.note(3);
        int[] due = {2, 432 - 14 - 12, 432 - 14 - 12, 7, 14 + 12, 55, 5, 1, 3, 0, 6, 1, 4, 2, 6};
        due[9] = 280 + 280 + 280 + 200 + 100 + 0 + 380 + 280;
        for (int what = 0; what < 15; what++) {
            Checks.due("count(" + what + ")", x.count(what), due[what]);
        }
        Checks.argument("count(-1)", () -> x.count(-1));
        Checks.argument("count(15)", () -> x.count(15));
    }

    private static void promise23Highest() {
        RibbonBalloons x = new RibbonBalloons();
        x.drop(1);
        Checks.due("the one", x.count(10), 1);
        x.undo();
        x.drop(3);
        x.drop(6);
        Checks.due("of several the lowest", x.count(10), 3);
        x.drop(6);
        Checks.due("the highest", x.count(10), 6);
        x.pass(99);
        Checks.due("all on the ground", x.count(10), 0);
        Checks.due("how many", x.count(11), 8);
    }

    private static void promise24Why() {
        RibbonBalloons x = new RibbonBalloons();
        Checks.due("fill in the air", x.why(0, 0), 2);
        Checks.due("vent", x.why(0, 1), 0);
        Checks.due("drop", x.why(0, 2), 0);
        Checks.due("put in the air", x.why(0, 3), 6);
        Checks.due("tie what is tied", x.why(0, 4), 7);
        Checks.due("cut", x.why(0, 5), 0);
        x.cut(0);
        Checks.due("tie", x.why(0, 4), 0);
        Checks.due("cut what is cut", x.why(0, 5), 9);
        x.vent(0, 10);
        Checks.due("100 is just long enough", x.why(0, 4), 0);
        x.vent(0, 1);
        Checks.due("100 is too short", x.why(0, 4), 8);
        x.vent(0, 49);
        Checks.due("no gas", x.why(0, 1), 3);
        Checks.due("fill on the ground", x.why(0, 0), 0);
        Checks.due("put on the ground", x.why(0, 3), 0);
        for (int bag = 0; bag < 6; bag++) {
            x.put(0);
        }
        Checks.due("10 bags", x.why(0, 3), 5);
        for (int bag = 0; bag < 10; bag++) {
            x.drop(0);
        }
        Checks.due("no bags", x.why(0, 2), 4);
        Checks.index("why(-1, 6)", () -> x.why(-1, 6));
        Checks.index("why(8, 0)", () -> x.why(8, 0));
        Checks.index("why(8, 6)", () -> x.why(8, 6));
        Checks.index("why(7, 4)", () -> x.why(7, 4));
        Checks.index("why(7, 5)", () -> x.why(7, 5));
        Checks.due("why(7, 3)", x.why(7, 3), 6);
        Checks.argument("why(7, 6)", () -> x.why(7, 6));
        Checks.argument("why(0, -1)", () -> x.why(0, -1));
    }

    private static void promise24FirstReasonCounts() {
        RibbonBalloons x = new RibbonBalloons();
        x.vent(0, 60);
        x.vent(1, 60);
        x.cut(1);
        x.cut(0);
        x.tie(0, 0);
        x.fill(1, 99);
        x.fill(1, 99);
        Checks.due("199 is one from 200", x.why(1, 0), 0);
        Checks.due("198", x.balloon(1, 0), 198);
        x.fill(1, 2);
        x.cut(0);
        Checks.due("full and in the air", x.why(1, 0), 1);
        x.vent(1, 1);
        Checks.due("in the air", x.why(1, 0), 2);
        RibbonBalloons y = new RibbonBalloons();
        y.vent(0, 60);
        y.vent(1, 60);
        y.cut(1);
        y.cut(0);
        y.tie(0, 0);
        for (int bag = 0; bag < 6; bag++) {
            y.put(1);
        }
        y.fill(1, 99);
        y.cut(0);
        Checks.due("in the air", y.balloon(1, 6), 390);
        Checks.due("10 bags and in the air", y.why(1, 3), 5);
    }

    /** Heights that are no tens: a balloon that wants 150, held by a ribbon above the ground. */
    private static RibbonBalloons heldAt(int height) {
        RibbonBalloons x = new RibbonBalloons();
        for (int b = 0; b < 8; b++) {
            x.vent(b, b == 1 ? 30 : 60);
        }
        x.cut(1);
        x.cut(0);
        x.tie(0, height);
        x.drop(1);
        x.drop(1);
        x.drop(1);
        Checks.due("held at", x.balloon(1, 6), Math.min(height, 150));
        return x;
    }

    private static void promise24OddHeights() {
        RibbonBalloons x = heldAt(1);
        Checks.due("1 is not on the ground", x.why(1, 0), 2);
        Checks.due("no bag is put in at 1", x.why(1, 3), 6);
        Checks.due("nor is it counted so", x.count(11), 7);
        Checks.due("101 above is too much for 100", heldAt(101).why(1, 4), 8);
        Checks.due("100 above is not", heldAt(100).why(1, 4), 0);
        RibbonBalloons y = heldAt(149);
        y.leak(1, 0);
        y.bear(0, 1);
        Checks.due("a pull of 1 is borne", y.snapsIn(), NONE);
        y.bear(0, 0);
        Checks.due("a pull of 1", y.ribbon(0, 3), 1);
        Checks.due("0 does not bear it", y.snapsIn(), 1);
        Checks.due("it snaps", y.pass(1), 1);
    }

    private static void promise25Stopped() {
        RibbonBalloons x = new RibbonBalloons();
        Checks.type(x, "n0;d3;p0;d3");
        x.work();
        Checks.due("the part", x.stopped(0), 2);
        Checks.due("why", x.stopped(1), 6);
        Checks.argument("stopped(-1)", () -> x.stopped(-1));
        Checks.argument("stopped(2)", () -> x.stopped(2));
    }

    private static void promise26IfDropped() {
        RibbonBalloons x = new RibbonBalloons();
        x.drop(1);
        x.drop(1);
        x.bear(0, 49);
        x.bear(1, 50);
        long digest = x.digest();
        Checks.due("height, held", x.ifDropped(1, 0), 400);
        Checks.due("all heights", x.ifDropped(1, 1), 2500);
        Checks.due("snaps", x.ifDropped(1, 2), 1);
        Checks.due("height", x.ifDropped(0, 0), 350);
        Checks.due("all heights", x.ifDropped(0, 1), 2550);
        Checks.due("no snaps", x.ifDropped(0, 2), 0);
        x.bear(1, 0);
        Checks.due("both would snap", x.ifDropped(1, 2), 2);
        x.undo();
        Checks.due("nothing is changed", x.digest(), digest);
        x.drop(1);
        x.drop(1);
        for (int what = 0; what < 3; what++) {
            Checks.due("no bag, " + what, x.ifDropped(1, what), NONE);
        }
        Checks.argument("no bag and 3", () -> x.ifDropped(1, 3));
        Checks.argument("ifDropped(0, -1)", () -> x.ifDropped(0, -1));
        Checks.index("ifDropped(-1, 3)", () -> x.ifDropped(-1, 3));
        Checks.index("ifDropped(8, 0)", () -> x.ifDropped(8, 0));
    }

    private static void promise27LandsIn() {
        RibbonBalloons x = new RibbonBalloons();
        Checks.due("30 hours", x.landsIn(0), 30);
        x.leak(0, 7);
        Checks.due("5 hours", x.landsIn(0), 5);
        x.leak(0, 0);
        Checks.due("no leak", x.landsIn(0), NONE);
        x.vent(0, 30);
        Checks.due("now", x.landsIn(0), 0);
        x.cut(0);
        Checks.due("nothing is changed", x.count(0), 0);
        Checks.index("landsIn(-1)", () -> x.landsIn(-1));
        Checks.index("landsIn(8)", () -> x.landsIn(8));
    }

    private static void promise27FarLandings() {
        RibbonBalloons x = Edges.full();
        x.leak(0, 0);
        Checks.due("held on the ground now", x.landsIn(1), 0);
        x.cut(0);
        Checks.due("200 of gas, lift 190", x.landsIn(1), 190);
        Checks.due("no ribbon snaps", x.snapsIn(), NONE);
    }

    private static void promise27LandingBehindSnaps() {
        RibbonBalloons x = Edges.full();
        x.bear(0, 400);
        x.cut(4);
        Checks.due("a pull of 999", x.ribbon(0, 3), 999);
        Checks.due("now, before the snap", x.landsIn(1), 0);
        Checks.due("the snap", x.pass(1), 1);
        Checks.due("by its own gas", x.landsIn(1), 189);
        // The balloon 3 comes down to the ground with the balloon 2, but the ribbon snaps in that hour.
        RibbonBalloons y = new RibbonBalloons();
        y.cut(1);
        y.cut(3);
        y.cut(2);
        y.tie(2, 0);
        y.leak(2, 9);
        y.bear(2, 260);
        Checks.due("9, 18, 27, 30", y.landsIn(2), 4);
        Checks.due("it lands with the other", y.landsIn(3), 4);
        y.bear(2, 259);
        Checks.due("the pull is 260 then", y.snapsIn(), 4);
        Checks.due("the ribbon snaps before it counts", y.landsIn(3), 30);
    }

    private static void promise28SnapsIn() {
        RibbonBalloons x = new RibbonBalloons();
        Checks.due("none", x.snapsIn(), NONE);
        x.leak(3, 9);
        x.leak(2, 0);
        x.bear(1, 500);
        x.bear(3, 500);
        x.bear(2, 45);
        Checks.due("210 holds none, 120 holds by 80", x.snapsIn(), 2);
        x.bear(2, 200);
        Checks.due("never so much", x.snapsIn(), NONE);
        x.bear(2, 199);
        Checks.due("in the hour of the landing", x.snapsIn(), 4);
        Checks.due("nothing snaps before", x.pass(3), 0);
        Checks.due("nearer", x.snapsIn(), 1);
        Checks.due("it does", x.pass(1), 1);
        Checks.due("none is left", x.snapsIn(), NONE);
    }

    private static void promise29BestBag() {
        RibbonBalloons x = new RibbonBalloons();
        Checks.due("of several the lowest", x.bestBag(), 0);
        x.vent(0, 10);
        x.vent(1, 20);
        Checks.due("not that which is held, but that which holds others", x.bestBag(), 1);
        x.vent(3, 20);
        x.vent(4, 10);
        x.vent(3, 10);
        Checks.due("that which holds most", x.bestBag(), 3);
        RibbonBalloons y = new RibbonBalloons();
        for (int b = 0; b < 8; b++) {
            for (int bag = 0; bag < 4; bag++) {
                y.drop(b);
            }
            Checks.due("with bags", y.bestBag(), b < 7 ? b + 1 : NONE);
        }
    }

    private static void promise30MeanHeight() {
        RibbonBalloons x = new RibbonBalloons();
        Checks.due("300", Double.doubleToLongBits(x.meanHeight()), Double.doubleToLongBits(300.0));
        x.drop(0);
        Checks.due("306.25", Double.doubleToLongBits(x.meanHeight()), Double.doubleToLongBits(306.25));
        x.pass(99);
        Checks.due("0", Double.doubleToLongBits(x.meanHeight()), 0);
    }

    private static void promise31LostShare() {
        RibbonBalloons x = new RibbonBalloons();
        Checks.due("0", Float.floatToIntBits(x.lostShare()), 0);
        x.vent(0, 60);
        x.fill(0, 11);
        x.pass(1);
        Checks.due("68 of 491", Float.floatToIntBits(x.lostShare()), Float.floatToIntBits(68f / 491f));
        x.pass(99);
        Checks.due("all", Float.floatToIntBits(x.lostShare()), Float.floatToIntBits(1f));
    }

    private static void promise32Digest() {
        String[] buffers = {"", "", "h1;c", "v199", "", "", ""};
        for (int stage = 0; stage < buffers.length; stage++) {
            // Each stage has an object of its own: to put a hash together takes some 300 calls of its 512.
            RibbonBalloons x = new RibbonBalloons();
            for (int step = 1; step <= stage; step++) {
                step(x, step);
            }
            digest("stage " + stage, x, stage > 0, buffers[stage]);
        }
        digest("full", Edges.full(), false, "");
        RibbonBalloons y = Edges.full();
        y.cut(0);
        digest("free", y, false, "");
        for (int height = 0; height <= 130; height++) {
            digest("mean of " + height, heldAt(height), false, "");
        }
    }

    private static void step(RibbonBalloons x, int step) {
        switch (step) {
            case 1:
                x.keep();
                break;
            case 2:
                Checks.type(x, "h1;c");
                break;
            case 3:
                x.clearBuffer();
                Checks.type(x, "v199");
                break;
            case 4:
                x.clearBuffer();
                Checks.type(x, "n7;n3;h4;n3;c3;d2;v230;d2;c3");
                x.work();
                break;
            case 5:
                x.pass(9);
                x.tune(1, -20);
                x.pass(30);
                x.note(1);
                break;
            default:
                x.pass(99);
                break;
        }
    }

    private static void digest(String when, RibbonBalloons x, boolean kept, String buffer) {
        long due = Hash.of(x, kept, buffer);
        Checks.due("digest, " + when, x.digest(), due);
        Checks.due("digest again, " + when, x.digest(), due);
    }

    public static void main(String[] args) {
        promise20Balloon();
        promise20Heights();
        promise20Most999();
        promise21Ribbon();
        promise21Pull();
        promise21PullWithoutLength();
        promise22Noted();
        promise23Count();
        promise23Highest();
        promise24Why();
        promise24FirstReasonCounts();
        promise24OddHeights();
        promise25Stopped();
        promise26IfDropped();
        promise27LandsIn();
        promise27FarLandings();
        promise27LandingBehindSnaps();
        promise28SnapsIn();
        promise29BestBag();
        promise30MeanHeight();
        promise31LostShare();
        promise32Digest();
        Checks.end("LookTests");
    }
}
