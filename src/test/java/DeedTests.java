/** Promises 1 to 12: a new object, gas, bags, ribbons, altimeters, hours. */
public final class DeedTests {
    private DeedTests() {
    }

    private static void promise1NewObject() {
        RibbonBalloons x = new RibbonBalloons();
        int[] balloon = {60, 4, 1, 30, 300, 300, 300, 0, 0, 300, 0, 8};
        for (int b = 0; b < 8; b++) {
            for (int what = 0; what < 12; what++) {
                Checks.due("new balloon " + b + ", " + what, x.balloon(b, what), balloon[what]);
            }
        }
        int[] ribbon = {1, 100, 150, 0, 0};
        for (int r = 0; r < 7; r++) {
            for (int what = 0; what < 5; what++) {
                Checks.due("new ribbon " + r + ", " + what, x.ribbon(r, what), ribbon[what]);
            }
        }
        int[] counts = {0, 480, 480, 0, 0, 0, 7, 0, 1, 2400, 0, 0, 0, 0, 0};
        for (int what = 0; what < 15; what++) {
            Checks.due("new count " + what, x.count(what), counts[what]);
        }
        Checks.due("new buffer", x.clearBuffer(), 0);
        Checks.due("new stop", x.stopped(0), RibbonBalloons.NONE);
        Checks.due("new stop's reason", x.stopped(1), RibbonBalloons.NONE);
        Checks.due("new notes", x.noted(0, 0), RibbonBalloons.NONE);
        Checks.state("new snapshot", () -> x.goBack());
        Checks.state("new saved states", () -> x.undo());
    }

    private static void promise2Fill() {
        RibbonBalloons x = new RibbonBalloons();
        x.vent(2, 60);
        Checks.due("fill on the ground", x.fill(2, 30), 30);
        Checks.due("still on the ground", x.balloon(2, 6), 0);
        Checks.due("fill 1", x.fill(2, 1), 31);
        Checks.due("fill off the ground", x.balloon(2, 6), 10);
        Checks.due("filled", x.count(3), 31);
        Checks.due("undoable", x.count(14), 3);
        Checks.unchanged("fill that throws", x, () -> {
            Checks.index("fill(-1, 0)", () -> x.fill(-1, 0));
            Checks.index("fill(8, 1)", () -> x.fill(8, 1));
            Checks.index("fill(min, 1)", () -> x.fill(Integer.MIN_VALUE, 1));
            Checks.argument("fill(2, 0)", () -> x.fill(2, 0));
            Checks.argument("fill(2, 100)", () -> x.fill(2, 100));
            Checks.argument("fill(2, max)", () -> x.fill(2, Integer.MAX_VALUE));
            Checks.state("fill in the air", () -> x.fill(2, 1));
        });
    }

    private static void promise2FillUpTo200() {
        RibbonBalloons x = new RibbonBalloons();
        groundByNeighbour(x);
        Checks.due("fill to 159", x.fill(1, 99), 159);
        Checks.due("fill to 200", x.fill(1, 41), 200);
        Checks.state("fill to 201", () -> x.fill(1, 1));
        Checks.due("reason 1", x.why(1, 0), 1);
        x.vent(1, 1);
        Checks.state("fill by 2 of 1", () -> x.fill(1, 2));
        Checks.due("fill by 1 of 1", x.fill(1, 1), 200);
    }

    /** The balloon 1 is tied without a length to the balloon 0, which has no gas. */
    private static void groundByNeighbour(RibbonBalloons x) {
        x.vent(0, 60);
        x.vent(1, 60);
        x.cut(1);
        x.cut(0);
        x.tie(0, 0);
        x.fill(1, 60);
        Checks.due("held on the ground", x.balloon(1, 6), 0);
        Checks.due("wants to rise", x.balloon(1, 4), 300);
    }

    private static void promise3Vent() {
        RibbonBalloons x = new RibbonBalloons();
        Checks.due("vent 5", x.vent(4, 5), 250);
        Checks.due("vent 24", x.vent(4, 24), 10);
        Checks.due("vent 1", x.vent(4, 1), 0);
        Checks.due("the neighbours come down", x.count(9), 300 + 200 + 100 + 100 + 200 + 300 + 300);
        Checks.due("vent the rest", x.vent(4, 30), 0);
        Checks.due("vented", x.count(5), 60);
        Checks.due("undoable", x.count(14), 4);
        Checks.due("vent the neighbour above", x.vent(5, 1), 100);
        Checks.unchanged("vent that throws", x, () -> {
            Checks.index("vent(-1, 0)", () -> x.vent(-1, 0));
            Checks.index("vent(8, 100)", () -> x.vent(8, 100));
            Checks.argument("vent(4, 0)", () -> x.vent(4, 0));
            Checks.argument("vent(4, -1)", () -> x.vent(4, -1));
            Checks.argument("vent(4, 100)", () -> x.vent(4, 100));
            Checks.state("vent(4, 1)", () -> x.vent(4, 1));
            Checks.state("vent(3, 61)", () -> x.vent(3, 61));
        });
        Checks.due("vent all at once", x.vent(3, 60), 0);
    }

    private static void promise4Drop() {
        RibbonBalloons x = new RibbonBalloons();
        Checks.due("drop 1", x.drop(0), 350);
        Checks.due("drop 2", x.drop(0), 400);
        Checks.due("drop 3, held", x.drop(0), 400);
        Checks.due("drop 4, held", x.drop(0), 400);
        Checks.due("dropped", x.count(12), 4);
        Checks.due("bags", x.balloon(0, 1), 0);
        Checks.due("undoable", x.count(14), 4);
        Checks.unchanged("drop that throws", x, () -> {
            Checks.index("drop(-1)", () -> x.drop(-1));
            Checks.index("drop(8)", () -> x.drop(8));
            Checks.state("drop(0)", () -> x.drop(0));
        });
    }

    private static void promise5Put() {
        RibbonBalloons x = new RibbonBalloons();
        x.vent(7, 60);
        for (int bags = 5; bags <= 10; bags++) {
            Checks.due("put " + bags, x.put(7), bags);
        }
        Checks.due("undoable, but 6 are saved", x.count(14), 6);
        Checks.due("nothing is dropped", x.count(12), 0);
        Checks.due("lift", x.balloon(7, 3), -60);
        Checks.due("height", x.balloon(7, 6), 0);
        Checks.unchanged("put that throws", x, () -> {
            Checks.index("put(-1)", () -> x.put(-1));
            Checks.index("put(8)", () -> x.put(8));
            Checks.state("an 11th bag", () -> x.put(7));
            Checks.state("put in the air", () -> x.put(0));
        });
    }

    private static void promise6Leak() {
        RibbonBalloons x = new RibbonBalloons();
        Checks.due("leak 9", x.leak(3, 9), 1);
        Checks.due("leak 0", x.leak(3, 0), 9);
        Checks.due("leak 0 again", x.leak(3, 0), 0);
        Checks.due("undoable, also if nothing changes", x.count(14), 3);
        x.pass(10);
        Checks.due("no leak", x.balloon(3, 0), 60);
        Checks.due("others leak", x.balloon(4, 0), 50);
        Checks.unchanged("leak that throws", x, () -> {
            Checks.index("leak(-1, 10)", () -> x.leak(-1, 10));
            Checks.index("leak(8, 1)", () -> x.leak(8, 1));
            Checks.argument("leak(0, -1)", () -> x.leak(0, -1));
            Checks.argument("leak(0, 10)", () -> x.leak(0, 10));
        });
    }

    private static void promise7Tie() {
        RibbonBalloons x = new RibbonBalloons();
        Checks.state("tied already", () -> x.tie(3, 100));
        x.cut(3);
        x.cut(5);
        x.drop(4);
        Checks.due("heights differ", x.balloon(4, 6) - x.balloon(3, 6), 50);
        Checks.unchanged("tie that throws", x, () -> {
            Checks.state("too short by 1", () -> x.tie(3, 49));
            Checks.index("tie(-1, -1)", () -> x.tie(-1, -1));
            Checks.index("tie(7, 100)", () -> x.tie(7, 100));
            Checks.argument("tie(0, -1)", () -> x.tie(0, -1));
            Checks.argument("tie(0, 301)", () -> x.tie(0, 301));
        });
        Checks.due("just long enough", x.tie(3, 50), 6);
        Checks.due("its length", x.ribbon(3, 1), 50);
        Checks.due("the longest, the balloons 6 and 7 too", x.tie(5, 300), 8);
        Checks.due("undoable", x.count(14), 5);
        x.drop(4);
        Checks.due("it holds", x.balloon(4, 6), 350);
        Checks.due("but not the way down", x.cut(3), 50);
        Checks.state("too short from above", () -> x.tie(3, 99));
        x.cut(4);
        Checks.due("the lower balloon may be the right one", x.tie(4, 100), 4);
    }

    private static void promise8Cut() {
        RibbonBalloons x = new RibbonBalloons();
        for (int bag = 0; bag < 4; bag++) {
            x.drop(0);
            x.drop(1);
        }
        Checks.due("heights", x.count(9), 500 + 400 + 6 * 300);
        Checks.due("cut that frees none", x.cut(4), 0);
        Checks.due("cut that frees one", x.cut(1), 100);
        Checks.due("length of one that is not tied", x.ribbon(1, 1), 100);
        Checks.due("undoable", x.count(14), 6);
        Checks.unchanged("cut that throws", x, () -> {
            Checks.index("cut(-1)", () -> x.cut(-1));
            Checks.index("cut(7)", () -> x.cut(7));
            Checks.state("cut(1)", () -> x.cut(1));
        });
        RibbonBalloons y = new RibbonBalloons();
        y.vent(3, 60);
        Checks.due("cut that frees four", y.cut(3), 200 + 100);
        Checks.due("cut that frees the others", y.cut(2), 200 + 100);
        Checks.due("no snap", y.count(7), 0);
    }

    private static void promise9Bear() {
        RibbonBalloons x = new RibbonBalloons();
        Checks.due("bear 500", x.bear(6, 500), 150);
        Checks.due("bear 0", x.bear(6, 0), 500);
        Checks.due("bear 0 again", x.bear(6, 0), 0);
        Checks.due("undoable", x.count(14), 3);
        Checks.due("told", x.ribbon(6, 2), 0);
        x.cut(6);
        Checks.due("also if it is not tied", x.bear(6, 7), 0);
        x.tie(6, 0);
        Checks.due("tied anew it bears the same", x.ribbon(6, 2), 7);
        Checks.unchanged("bear that throws", x, () -> {
            Checks.index("bear(-1, 501)", () -> x.bear(-1, 501));
            Checks.index("bear(7, 1)", () -> x.bear(7, 1));
            Checks.argument("bear(0, -1)", () -> x.bear(0, -1));
            Checks.argument("bear(0, 501)", () -> x.bear(0, 501));
        });
    }

    private static void promise10Tune() {
        RibbonBalloons x = new RibbonBalloons();
        Checks.due("tune 20", x.tune(1, 20), 300);
        x.pass(2);
        Checks.due("told by 20 in 2 hours", x.balloon(1, 9), 280 + 10);
        Checks.due("tune -3", x.tune(1, -3), 290);
        Checks.due("told at once", x.balloon(1, 9), 280);
        Checks.due("hours since", x.balloon(1, 8), 0);
        x.pass(1);
        Checks.due("-3 / 4 is 0", x.balloon(1, 9), 270);
        x.pass(1);
        Checks.due("-6 / 4 is -1", x.balloon(1, 9), 260 - 1);
        Checks.due("hours since", x.balloon(1, 8), 2);
        Checks.due("hours of one never tuned", x.balloon(0, 8), 4);
        Checks.due("tune the same drift", x.tune(1, -3), 259);
        Checks.due("hours since", x.balloon(1, 8), 0);
        Checks.due("undoable", x.count(14), 6);
        x.tune(2, -20);
        x.pass(40);
        Checks.due("told below 0", x.balloon(2, 9), -200);
        Checks.unchanged("tune that throws", x, () -> {
            Checks.index("tune(-1, 21)", () -> x.tune(-1, 21));
            Checks.index("tune(8, 0)", () -> x.tune(8, 0));
            Checks.argument("tune(0, 21)", () -> x.tune(0, 21));
            Checks.argument("tune(0, -21)", () -> x.tune(0, -21));
        });
    }

    private static void promise11Note() {
        RibbonBalloons x = new RibbonBalloons();
        x.tune(5, 4);
        x.pass(3);
        Checks.due("note", x.note(5), 273);
        Checks.due("note of another", x.note(1), 270);
        x.drop(5);
        Checks.due("note made anew", x.note(5), 323);
        Checks.due("it is one", x.count(13), 2);
        Checks.due("it keeps its place", x.noted(0, 0), 5);
        Checks.due("but not its height", x.noted(0, 2), 323);
        Checks.due("undoable", x.count(14), 6);
        x.undo();
        Checks.due("undone", x.noted(0, 2), 273);
        Checks.index("note(-1)", () -> x.note(-1));
        Checks.index("note(8)", () -> x.note(8));
    }

    private static void promise11TwentyNotes() {
        RibbonBalloons x = new RibbonBalloons();
        for (int hour = 0; hour < 20; hour++) {
            x.note(hour % 8);
            x.pass(1);
        }
        Checks.due("20 notes", x.count(13), 20);
        Checks.due("the oldest", x.noted(0, 1), 0);
        x.note(3);
        Checks.due("still 20", x.count(13), 20);
        Checks.due("the oldest is gone", x.noted(0, 1), 1);
        for (int rank = 0; rank < 20; rank++) {
            int hour = rank + 1;
            Checks.due("balloon of the hour " + hour, x.noted(rank, 0), rank == 19 ? 3 : hour % 8);
            Checks.due("hour of the hour " + hour, x.noted(rank, 1), hour);
            Checks.due("telling of the hour " + hour, x.noted(rank, 2), 300 - 10 * hour);
        }
        x.note(3);
        Checks.due("made anew, none is gone", x.noted(0, 1), 1);
        x.undo();
        x.undo();
        Checks.due("the oldest is back", x.noted(0, 1), 0);
    }

    private static void promise12Pass() {
        RibbonBalloons x = new RibbonBalloons();
        Checks.due("an hour", x.pass(1), 0);
        Checks.due("hours", x.count(0), 1);
        Checks.due("leaked", x.count(4), 8);
        Checks.due("99 hours", x.pass(99), 0);
        Checks.due("hours", x.count(0), 100);
        Checks.due("gas is not below 0", x.count(1), 0);
        Checks.due("leaked is what was there", x.count(4), 480);
        Checks.due("undoable, as one", x.count(14), 2);
        x.undo();
        Checks.due("undone", x.count(0), 1);
        Checks.unchanged("pass that throws", x, () -> {
            Checks.argument("pass(0)", () -> x.pass(0));
            Checks.argument("pass(-1)", () -> x.pass(-1));
            Checks.argument("pass(100)", () -> x.pass(100));
        });
    }

    private static void promise12Snaps() {
        RibbonBalloons x = new RibbonBalloons();
        for (int bag = 0; bag < 4; bag++) {
            x.drop(1);
            x.drop(6);
        }
        x.bear(0, 99);
        x.bear(1, 99);
        x.bear(5, 100);
        x.bear(6, 99);
        Checks.due("pull", x.ribbon(1, 3), 100);
        Checks.due("just borne", x.ribbon(5, 4), 0);
        Checks.due("above what it bears", x.ribbon(6, 4), 1);
        Checks.due("one an hour, of several the lowest", x.pass(1), 1);
        Checks.due("ribbon 0", x.ribbon(0, 0), 0);
        Checks.due("ribbon 1", x.ribbon(1, 0), 1);
        Checks.due("two in three hours", x.pass(3), 2);
        Checks.due("ribbon 1", x.ribbon(1, 0), 0);
        Checks.due("ribbon 5 bears it", x.ribbon(5, 0), 1);
        Checks.due("ribbon 6", x.ribbon(6, 0), 0);
        Checks.due("snapped", x.count(7), 3);
    }

    private static void promise12GreatestPullSnaps() {
        RibbonBalloons x = new RibbonBalloons();
        x.drop(0);
        x.drop(0);
        x.drop(0);
        for (int bag = 0; bag < 4; bag++) {
            x.drop(7);
        }
        x.bear(0, 10);
        x.bear(6, 60);
        Checks.due("pull at 0", x.ribbon(0, 3), 50);
        Checks.due("pull at 6", x.ribbon(6, 3), 100);
        x.pass(1);
        Checks.due("the greatest pull, not the most above", x.ribbon(6, 0), 0);
        Checks.due("the other holds", x.ribbon(0, 0), 1);
    }

    private static void promise12LeakComesFirst() {
        RibbonBalloons x = new RibbonBalloons();
        for (int bag = 0; bag < 4; bag++) {
            x.drop(0);
        }
        x.leak(0, 9);
        x.bear(0, 20);
        Checks.due("it would snap now", x.ribbon(0, 4), 1);
        Checks.due("but not by the heights behind the leak", x.pass(1), 0);
    }

    public static void main(String[] args) {
        promise1NewObject();
        promise2Fill();
        promise2FillUpTo200();
        promise3Vent();
        promise4Drop();
        promise5Put();
        promise6Leak();
        promise7Tie();
        promise8Cut();
        promise9Bear();
        promise10Tune();
        promise11Note();
        promise11TwentyNotes();
        promise12Pass();
        promise12Snaps();
        promise12GreatestPullSnaps();
        promise12LeakComesFirst();
        Checks.end("DeedTests");
    }
}
