/** The boundary cases that promises 1 to 12 name, sentence by sentence. */
public final class DeedEdgeTests extends Edges {
    private static final String UNDOABLE = "Undoable.";
    private static final String BALLOON = "- `balloon`: 0 to 7";
    private static final String RIBBON = "- `ribbon`: 0 to 6";
    private static final String NO_BALLOON = "Throws `IndexOutOfBoundsException` if there is no such balloon";
    private static final String NO_RIBBON = "Throws `IndexOutOfBoundsException` if there is no such ribbon";

    private static void newObject() {
        String section = "Promise 1: A new object";
        edge(section, "Creates balloons and ribbons as told above,", () -> {
            RibbonBalloons x = fresh();
            drop(x, 0, 4);
            x.cut(0);
            x.tune(0, 9);
            x.pass(9);
            x.note(0);
            work(x, "p1");
            // Another new object has nothing of it.
            RibbonBalloons y = fresh();
            are(balloons(y, 0), 60, 60, 60, 60, 60, 60, 60, 60);
            are(balloons(y, 1), 4, 4, 4, 4, 4, 4, 4, 4);
            are(balloons(y, 9), 300, 300, 300, 300, 300, 300, 300, 300);
            are(ribbons(y, 0), 1, 1, 1, 1, 1, 1, 1);
            int[] counts = {0, 480, 480, 0, 0, 0, 7, 0, 1, 2400, 0, 0, 0, 0, 0};
            for (int what = 0; what <= 14; what++) {
                is(y.count(what), counts[what]);
            }
            is(y.stopped(0), RibbonBalloons.NONE);
            state(y, () -> y.undo());
        });
        edge(section, "with an empty buffer", () -> {
            is(fresh().clearBuffer(), 0);
            is(fresh().firstError(), 0);
            is(fresh().append('h'), 1);
            RibbonBalloons x = fresh();
            argument(x, () -> x.work());
        });
        edge(section, "and no snapshot.", () -> {
            RibbonBalloons x = fresh();
            state(x, () -> x.goBack());
            x.drop(0);
            state(x, () -> x.goBack());
        });
    }

    private static void fill() {
        String section = "Promise 2: fill";
        plain(section, "Fills gas in.");
        edge(section, UNDOABLE, () -> {
            RibbonBalloons x = kite(0);
            undoable(x, () -> x.fill(1, 99));
        });
        edge(section, BALLOON, () -> {
            RibbonBalloons x = fresh();
            x.vent(0, 60);
            x.vent(7, 60);
            is(x.fill(0, 5), 5);
            is(x.fill(7, 6), 6);
        });
        edge(section, "- `gas`: 1 to 99", () -> {
            RibbonBalloons x = kite(0);
            is(x.fill(1, 1), 1);
            is(x.fill(1, 99), 100);
        });
        edge(section, "Returns the gas in the balloon then.", () -> {
            RibbonBalloons x = kite(0);
            is(x.fill(1, 99), 99);
            is(x.fill(1, 99), 198);
            is(x.fill(1, 2), 200);
            is(x.balloon(1, 0), 200);
            is(x.count(3), 200);
        });
        edge(section, NO_BALLOON, () -> {
            RibbonBalloons x = kite(0);
            noBalloon(x, b -> x.fill(b, 1));
        });
        edge(section, "Throws `IllegalArgumentException` if gas is out of range", () -> {
            RibbonBalloons x = kite(0);
            outside(x, 1, 99, gas -> x.fill(1, gas));
        });
        edge(section, "Throws `IllegalStateException` if it can not be filled in", () -> {
            RibbonBalloons x = full();
            state(x, () -> x.fill(1, 1));
            x.vent(1, 98);
            state(x, () -> x.fill(1, 99));
            is(x.fill(1, 98), 200);
            RibbonBalloons y = fresh();
            y.vent(0, 29);
            is(y.balloon(0, 6), 10);
            state(y, () -> y.fill(0, 1));
            y.vent(0, 1);
            is(y.fill(0, 1), 31);
        });
    }

    private static void vent() {
        String section = "Promise 3: vent";
        plain(section, "Lets gas out.");
        edge(section, UNDOABLE, () -> {
            RibbonBalloons x = fresh();
            undoable(x, () -> x.vent(0, 60));
        });
        edge(section, BALLOON, () -> {
            RibbonBalloons x = fresh();
            is(x.vent(0, 1), 290);
            is(x.vent(7, 2), 280);
            are(balloons(x, 0), 59, 60, 60, 60, 60, 60, 60, 58);
        });
        edge(section, "- `gas`: 1 to 99", () -> {
            RibbonBalloons x = full();
            x.cut(0);
            is(x.vent(1, 99), 910);
            is(x.vent(1, 1), 900);
            is(x.balloon(1, 0), 100);
        });
        edge(section, "Returns the height of the balloon then.", () -> {
            RibbonBalloons x = fresh();
            is(x.vent(0, 29), 10);
            is(x.vent(0, 1), 0);
            is(x.vent(0, 30), 0);
            // Held by its neighbour as before; and the most that is.
            is(x.vent(1, 1), 100);
            RibbonBalloons y = full();
            y.cut(0);
            is(y.vent(1, 90), 999);
            is(y.vent(1, 1), 990);
        });
        edge(section, NO_BALLOON, () -> {
            RibbonBalloons x = fresh();
            noBalloon(x, b -> x.vent(b, 1));
        });
        edge(section, "Throws `IllegalArgumentException` if gas is out of range", () -> {
            RibbonBalloons x = full();
            outside(x, 1, 99, gas -> x.vent(1, gas));
        });
        edge(section, "Throws `IllegalStateException` if it can not be let out", () -> {
            RibbonBalloons x = fresh();
            state(x, () -> x.vent(0, 61));
            state(x, () -> x.vent(0, 99));
            is(x.vent(0, 60), 0);
            state(x, () -> x.vent(0, 1));
        });
    }

    private static void drop() {
        String section = "Promise 4: drop";
        plain(section, "Drops a bag.");
        edge(section, UNDOABLE, () -> {
            RibbonBalloons x = fresh();
            drop(x, 0, 3);
            undoable(x, () -> x.drop(0));
        });
        edge(section, BALLOON, () -> {
            RibbonBalloons x = fresh();
            is(x.drop(0), 350);
            is(x.drop(7), 350);
            are(balloons(x, 1), 3, 4, 4, 4, 4, 4, 4, 3);
        });
        edge(section, "Returns the height of the balloon then.", () -> {
            RibbonBalloons x = fresh();
            x.vent(0, 36);
            is(x.drop(0), 0);
            is(x.balloon(0, 3), -1);
            is(x.drop(0), 40);
            // Held as before; and the most that is.
            is(risen(1).drop(1), 1);
            RibbonBalloons y = full();
            y.put(1);
            y.cut(0);
            is(y.drop(1), 999);
        });
        edge(section, NO_BALLOON, () -> {
            RibbonBalloons x = fresh();
            noBalloon(x, b -> x.drop(b));
        });
        edge(section, "Throws `IllegalStateException` if there is none", () -> {
            RibbonBalloons x = fresh();
            drop(x, 0, 3);
            is(x.drop(0), 400);
            state(x, () -> x.drop(0));
            is(x.count(12), 4);
        });
    }

    private static void put() {
        String section = "Promise 5: put";
        plain(section, "Puts a bag in.");
        edge(section, UNDOABLE, () -> {
            RibbonBalloons x = kite(0);
            undoable(x, () -> x.put(0));
        });
        edge(section, BALLOON, () -> {
            RibbonBalloons x = fresh();
            x.vent(0, 60);
            x.vent(7, 60);
            is(x.put(0), 5);
            is(x.put(7), 5);
            are(balloons(x, 1), 5, 4, 4, 4, 4, 4, 4, 5);
        });
        edge(section, "Returns how many bags it has then.", () -> {
            RibbonBalloons x = kite(0);
            drop(x, 1, 4);
            for (int bags = 1; bags <= 10; bags++) {
                is(x.put(1), bags);
            }
            is(x.count(12), 4);
        });
        edge(section, NO_BALLOON, () -> {
            RibbonBalloons x = kite(0);
            noBalloon(x, b -> x.put(b));
        });
        edge(section, "Throws `IllegalStateException` if none can be put in", () -> {
            RibbonBalloons x = kite(0);
            put(x, 1, 6);
            state(x, () -> x.put(1));
            RibbonBalloons y = fresh();
            y.vent(0, 29);
            state(y, () -> y.put(0));
            y.vent(0, 1);
            is(y.put(0), 5);
        });
    }

    private static void leak() {
        String section = "Promise 6: leak";
        plain(section, "Changes the leak of a balloon.");
        edge(section, UNDOABLE, () -> {
            RibbonBalloons x = fresh();
            undoable(x, () -> x.leak(0, 9));
        });
        edge(section, BALLOON, () -> {
            RibbonBalloons x = fresh();
            x.leak(0, 2);
            x.leak(7, 3);
            are(balloons(x, 2), 2, 1, 1, 1, 1, 1, 1, 3);
        });
        edge(section, "- `leak`: 0 to 9", () -> {
            RibbonBalloons x = fresh();
            x.leak(0, 0);
            x.leak(1, 9);
            x.pass(1);
            is(x.balloon(0, 0), 60);
            is(x.balloon(1, 0), 51);
        });
        edge(section, "Returns the leak before.", () -> {
            RibbonBalloons x = fresh();
            is(x.leak(0, 9), 1);
            is(x.leak(0, 0), 9);
            is(x.leak(0, 0), 0);
            is(x.leak(0, 1), 0);
        });
        edge(section, NO_BALLOON, () -> {
            RibbonBalloons x = fresh();
            noBalloon(x, b -> x.leak(b, 1));
        });
        edge(section, "Throws `IllegalArgumentException` if leak is out of range", () -> {
            RibbonBalloons x = fresh();
            outside(x, 0, 9, leak -> x.leak(0, leak));
        });
    }

    private static void tie() {
        String section = "Promise 7: tie";
        plain(section, "Ties a ribbon with a length.");
        edge(section, UNDOABLE, () -> {
            RibbonBalloons x = fresh();
            x.cut(0);
            undoable(x, () -> x.tie(0, 77));
        });
        edge(section, RIBBON, () -> {
            RibbonBalloons x = cutUp();
            x.tie(0, 5);
            x.tie(6, 6);
            are(ribbons(x, 0), 1, 0, 0, 0, 0, 0, 1);
            are(ribbons(x, 1), 5, 100, 100, 100, 100, 100, 6);
        });
        edge(section, "- `length`: 0 to 300", () -> {
            RibbonBalloons x = cutUp();
            x.vent(1, 60);
            x.tie(0, 300);
            is(x.balloon(0, 6), 300);
            x.tie(5, 0);
            is(x.ribbon(5, 1), 0);
            drop(x, 6, 1);
            is(x.balloon(6, 6), 300);
        });
        edge(section, "Returns how many balloons the string has then.", () -> {
            RibbonBalloons x = cutUp();
            is(x.tie(0, 1), 2);
            is(x.tie(6, 1), 2);
            is(x.tie(1, 1), 3);
            is(x.tie(4, 1), 2);
            is(x.tie(5, 1), 4);
            is(x.tie(2, 1), 4);
            is(x.tie(3, 1), 8);
        });
        edge(section, NO_RIBBON, () -> {
            RibbonBalloons x = cutUp();
            noRibbon(x, r -> x.tie(r, 100));
        });
        edge(section, "Throws `IllegalArgumentException` if length is out of range", () -> {
            RibbonBalloons x = cutUp();
            outside(x, 0, 300, length -> x.tie(0, length));
        });
        edge(section, "Throws `IllegalStateException` if it can not be tied", () -> {
            RibbonBalloons x = cutUp();
            x.vent(0, 1);
            state(x, () -> x.tie(0, 9));
            is(x.tie(0, 10), 2);
            state(x, () -> x.tie(0, 10));
            state(x, () -> x.tie(0, 300));
            // 310 is more than a ribbon can have.
            RibbonBalloons y = cutUp();
            y.vent(0, 60);
            is(y.tie(0, 300), 2);
            y.cut(0);
            drop(y, 1, 1);
            state(y, () -> y.tie(0, 300));
        });
    }

    private static void cut() {
        String section = "Promise 8: cut";
        plain(section, "Cuts a ribbon: it is not tied any more.");
        edge(section, UNDOABLE, () -> {
            RibbonBalloons x = kite(0);
            undoable(x, () -> x.cut(0));
        });
        edge(section, RIBBON, () -> {
            RibbonBalloons x = fresh();
            x.cut(0);
            x.cut(6);
            are(ribbons(x, 0), 0, 1, 1, 1, 1, 1, 0);
        });
        edge(section, "Returns by how much all heights together become more.", () -> {
            is(fresh().cut(0), 0);
            is(full().cut(0), 999);
            is(risen(299).cut(0), 391);
            RibbonBalloons x = chain(0);
            x.vent(7, 60);
            is(x.count(9), 0);
            is(x.cut(6), 7 * 300);
            is(x.cut(5), 0);
            is(x.cut(0), 0);
        });
        edge(section, NO_RIBBON, () -> {
            RibbonBalloons x = fresh();
            noRibbon(x, r -> x.cut(r));
        });
        edge(section, "Throws `IllegalStateException` if it can not be cut", () -> {
            RibbonBalloons x = fresh();
            x.cut(0);
            state(x, () -> x.cut(0));
            // One that snapped is not tied either.
            RibbonBalloons y = full();
            y.pass(1);
            state(y, () -> y.cut(0));
        });
    }

    private static void bear() {
        String section = "Promise 9: bear";
        plain(section, "Changes what a ribbon bears.");
        edge(section, UNDOABLE, () -> {
            RibbonBalloons x = fresh();
            undoable(x, () -> x.bear(0, 500));
        });
        edge(section, RIBBON, () -> {
            RibbonBalloons x = fresh();
            x.bear(0, 1);
            x.bear(6, 2);
            are(ribbons(x, 2), 1, 150, 150, 150, 150, 150, 2);
        });
        edge(section, "- `pull`: 0 to 500", () -> {
            RibbonBalloons x = kite(0);
            x.fill(1, 80);
            is(x.ribbon(0, 3), 500);
            x.bear(0, 500);
            is(x.ribbon(0, 4), 0);
            x.fill(1, 1);
            is(x.ribbon(0, 4), 1);
            x.bear(0, 0);
            x.vent(1, 50);
            is(x.ribbon(0, 3), 10);
            is(x.ribbon(0, 4), 1);
            x.vent(1, 1);
            is(x.ribbon(0, 4), 0);
        });
        edge(section, "Returns what it bore before.", () -> {
            RibbonBalloons x = fresh();
            is(x.bear(0, 500), 150);
            is(x.bear(0, 0), 500);
            is(x.bear(0, 0), 0);
            x.cut(0);
            is(x.bear(0, 1), 0);
            is(x.bear(0, 2), 1);
        });
        edge(section, NO_RIBBON, () -> {
            RibbonBalloons x = fresh();
            noRibbon(x, r -> x.bear(r, 100));
        });
        edge(section, "Throws `IllegalArgumentException` if pull is out of range", () -> {
            RibbonBalloons x = fresh();
            outside(x, 0, 500, pull -> x.bear(0, pull));
        });
    }

    private static void tune() {
        String section = "Promise 10: tune";
        edge(section, "Tunes an altimeter: it has no hours since then, and another drift.", () -> {
            RibbonBalloons x = fresh();
            x.tune(0, 20);
            x.pass(99);
            is(x.balloon(0, 8), 99);
            x.tune(0, 20);
            is(x.balloon(0, 8), 0);
            is(x.balloon(0, 7), 20);
            is(x.balloon(0, 9), 0);
            x.tune(0, -20);
            is(x.balloon(0, 7), -20);
            is(x.balloon(1, 8), 99);
            is(x.balloon(1, 7), 0);
        });
        edge(section, UNDOABLE, () -> {
            RibbonBalloons x = fresh();
            x.pass(5);
            undoable(x, () -> x.tune(0, 20));
        });
        edge(section, BALLOON, () -> {
            RibbonBalloons x = fresh();
            x.tune(0, 1);
            x.tune(7, 2);
            are(balloons(x, 7), 1, 0, 0, 0, 0, 0, 0, 2);
        });
        edge(section, "- `drift`: -20 to 20", () -> {
            RibbonBalloons x = fresh();
            x.tune(0, -20);
            x.tune(1, 20);
            x.tune(2, 0);
            x.pass(1);
            is(x.balloon(0, 9), 285);
            is(x.balloon(1, 9), 295);
            is(x.balloon(2, 9), 290);
        });
        edge(section, "Returns what it told before.", () -> {
            RibbonBalloons x = fresh();
            is(x.tune(0, 20), 300);
            is(x.tune(0, 20), 300);
            x.pass(99);
            is(x.tune(0, -20), 495);
            is(x.tune(0, -20), 0);
            x.pass(1);
            is(x.tune(0, 0), -5);
        });
        edge(section, NO_BALLOON, () -> {
            RibbonBalloons x = fresh();
            noBalloon(x, b -> x.tune(b, 0));
        });
        edge(section, "Throws `IllegalArgumentException` if drift is out of range", () -> {
            RibbonBalloons x = fresh();
            outside(x, -20, 20, drift -> x.tune(0, drift));
        });
    }

    private static void note() {
        String section = "Promise 11: note";
        plain(section, "Makes a note of what an altimeter tells.");
        edge(section, UNDOABLE, () -> {
            RibbonBalloons x = fresh();
            undoable(x, () -> x.note(0));
            // One made anew, and one that lets the oldest go.
            x.note(0);
            x.drop(0);
            undoable(x, () -> x.note(0));
            RibbonBalloons y = fresh();
            work(y, "n0;n1;n2;n3;n4;n5;n6;n7;h1");
            work(y, "n0;n1;n2;n3;n4;n5;n6;n7;h1;n0;n1;n2;n3");
            is(y.count(13), 20);
            undoable(y, () -> y.note(4));
            are(note(y, 0), 0, 0, 300);
            are(note(y, 19), 3, 2, 280);
        });
        edge(section, BALLOON, () -> {
            RibbonBalloons x = fresh();
            x.note(0);
            x.note(7);
            are(note(x, 0), 0, 0, 300);
            are(note(x, 1), 7, 0, 300);
        });
        edge(section, "Returns what it tells.", () -> {
            RibbonBalloons x = fresh();
            is(x.note(0), 300);
            x.vent(0, 60);
            is(x.note(0), 0);
            x.tune(0, -20);
            x.pass(1);
            is(x.note(0), -5);
            RibbonBalloons y = full();
            y.cut(0);
            is(y.note(1), 999);
        });
        edge(section, NO_BALLOON, () -> {
            RibbonBalloons x = fresh();
            noBalloon(x, b -> x.note(b));
        });
    }

    private static void pass() {
        String section = "Promise 12: pass";
        plain(section, "Lets hours pass.");
        edge(section, "Undoable, as one call.", () -> {
            RibbonBalloons x = fresh();
            undoable(x, () -> x.pass(1));
            undoable(x, () -> x.pass(99));
        });
        edge(section, "- `hours`: 1 to 99", () -> {
            RibbonBalloons x = fresh();
            x.pass(1);
            is(x.count(0), 1);
            x.pass(99);
            is(x.count(0), 100);
            is(x.count(4), 480);
        });
        edge(section, "Returns how many ribbons snap in them.", () -> {
            is(fresh().pass(99), 0);
            is(full().pass(1), 1);
            is(full().pass(99), 1);
            is(sloping().pass(7), 7);
            is(sloping().pass(99), 7);
            RibbonBalloons x = sloping();
            is(x.pass(6), 6);
            is(x.count(6), 1);
            is(x.pass(1), 1);
            is(x.count(6), 0);
            is(x.count(7), 7);
            is(x.pass(1), 0);
        });
        edge(section, "Throws `IllegalArgumentException` if hours is out of range", () -> {
            RibbonBalloons x = fresh();
            outside(x, 1, 99, hours -> x.pass(hours));
        });
    }

    /** Ribbons without length, that bear nothing; each balloon wants 10 less than the one before. */
    private static RibbonBalloons sloping() {
        RibbonBalloons x = chain(0);
        for (int r = 0; r < 7; r++) {
            x.bear(r, 0);
            x.vent(r + 1, r + 1);
        }
        are(ribbons(x, 3), 70, 60, 50, 40, 30, 20, 10);
        return x;
    }

    public static void main(String[] args) {
        newObject();
        fill();
        vent();
        drop();
        put();
        leak();
        tie();
        cut();
        bear();
        tune();
        note();
        pass();
        end("DeedEdgeTests", "Promise 1: A new object", "Promise 2: fill", "Promise 3: vent", "Promise 4: drop",
            "Promise 5: put", "Promise 6: leak", "Promise 7: tie", "Promise 8: cut", "Promise 9: bear", "Promise 10: tune",
            "Promise 11: note", "Promise 12: pass");
    }
}
