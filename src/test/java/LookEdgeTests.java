/** The boundary cases that promises 20 to 32 name, sentence by sentence. */
public final class LookEdgeTests extends Edges {
    private static final int NONE = RibbonBalloons.NONE;
    private static final String NUMBER = "Returns the number.";
    private static final String BALLOON = "- `balloon`: 0 to 7";
    private static final String NO_BALLOON = "Throws `IndexOutOfBoundsException` if there is no such balloon";

    // ---- objects at the ends of what can be

    /** All balloons are as high as can be: 999. */
    private static RibbonBalloons high() {
        RibbonBalloons x = chain(0);
        x.vent(0, 60);
        for (int b = 1; b < 8; b++) {
            x.fill(b, 99);
            x.fill(b, 41);
        }
        put(x, 0, 6);
        x.fill(0, 60);
        x.fill(0, 99);
        x.drop(0);
        return x;
    }

    /** All balloons are on the ground, without gas. */
    private static RibbonBalloons low() {
        RibbonBalloons x = fresh();
        x.pass(60);
        return x;
    }

    private static RibbonBalloons withoutBags() {
        RibbonBalloons x = fresh();
        for (int b = 0; b < 8; b++) {
            drop(x, b, 4);
        }
        return x;
    }

    /**
     * The ribbon 1, with a length of 300, between the balloon 1 at 800, with 200 of gas and no bags, and
     * the balloon 2 at 500, that leaks nothing and has no bags. In 190 hours the balloon 1 comes down to
     * the ground, and the pull is 199 now and 200 in the last of them, less before.
     */
    private static RibbonBalloons lastFall(int bears) {
        RibbonBalloons x = full();
        x.cut(2);
        x.leak(2, 0);
        x.tie(1, 300);
        drop(x, 2, 4);
        x.bear(1, bears);
        x.cut(0);
        is(x.balloon(1, 6), 800);
        is(x.balloon(2, 6), 500);
        is(x.ribbon(1, 3), 199);
        return x;
    }

    // ---- looks

    private static void balloon() {
        String section = "Promise 20: balloon";
        plain(section, "Tells something of a balloon.", NUMBER);
        edge(section, BALLOON, () -> {
            RibbonBalloons x = fresh();
            x.vent(0, 1);
            x.vent(7, 2);
            are(balloons(x, 0), 59, 60, 60, 60, 60, 60, 60, 58);
        });
        edge(section, NO_BALLOON, () -> {
            RibbonBalloons x = fresh();
            noBalloon(x, b -> x.balloon(b, 0));
            noBalloon(x, b -> x.balloon(b, 11));
        });
        edge(section, "Throws `IllegalArgumentException` if what is not 0 to 11", () -> {
            RibbonBalloons x = fresh();
            outside(x, 0, 11, what -> x.balloon(0, what));
            is(x.balloon(0, 0), 60);
            is(x.balloon(0, 11), 8);
        });
        edge(section, "- `what`: 0: its gas;", () -> {
            is(full().balloon(1, 0), 200);
            is(full().balloon(0, 0), 0);
            is(low().balloon(7, 0), 0);
        });
        edge(section, "1: its bags;", () -> {
            RibbonBalloons x = kite(0);
            put(x, 0, 6);
            drop(x, 1, 4);
            is(x.balloon(0, 1), 10);
            is(x.balloon(1, 1), 0);
        });
        edge(section, "2: its leak;", () -> {
            RibbonBalloons x = fresh();
            x.leak(0, 9);
            x.leak(1, 0);
            // It tells the leak, not what can leak yet.
            x.pass(99);
            is(x.balloon(0, 2), 9);
            is(x.balloon(1, 2), 0);
        });
        edge(section, "3: its lift;", () -> {
            RibbonBalloons x = full();
            put(x, 0, 6);
            is(x.balloon(0, 3), -60);
            is(x.balloon(1, 3), 190);
        });
        edge(section, "4: the height that it wants;", () -> {
            is(full().balloon(0, 4), 0);
            is(full().balloon(1, 4), 999);
            is(low().balloon(0, 4), 0);
        });
        edge(section, "7: the drift of its altimeter;", () -> {
            RibbonBalloons x = fresh();
            x.tune(0, -20);
            x.tune(7, 20);
            x.pass(9);
            are(balloons(x, 7), -20, 0, 0, 0, 0, 0, 0, 20);
        });
        edge(section, "8: hours since it was tuned;", () -> {
            RibbonBalloons x = fresh();
            is(x.balloon(0, 8), 0);
            x.pass(99);
            is(x.balloon(0, 8), 99);
            x.tune(0, 0);
            is(x.balloon(0, 8), 0);
            x.pass(99);
            x.pass(99);
            is(x.balloon(0, 8), 198);
            is(x.balloon(7, 8), 297);
        });
        edge(section, "9: what it tells;", () -> {
            RibbonBalloons x = high();
            for (int b = 0; b < 8; b++) {
                x.leak(b, 0);
            }
            x.tune(0, 20);
            x.tune(1, -20);
            x.pass(99);
            x.pass(99);
            x.pass(2);
            // More than a balloon can be high, and just what NONE is, and 1.
            is(x.balloon(0, 9), 1999);
            is(x.balloon(1, 9), -1);
            is(low().balloon(0, 9), 0);
        });
        edge(section, "10: the lowest balloon of its string;", () -> {
            RibbonBalloons x = fresh();
            // By its number, not by its height.
            x.vent(5, 60);
            are(balloons(x, 10), 0, 0, 0, 0, 0, 0, 0, 0);
            x.cut(6);
            are(balloons(x, 10), 0, 0, 0, 0, 0, 0, 0, 7);
            are(balloons(cutUp(), 10), 0, 1, 2, 3, 4, 5, 6, 7);
        });
        edge(section, "11: the balloons of its string, how many", () -> {
            are(balloons(fresh(), 11), 8, 8, 8, 8, 8, 8, 8, 8);
            are(balloons(cutUp(), 11), 1, 1, 1, 1, 1, 1, 1, 1);
            RibbonBalloons x = fresh();
            x.cut(0);
            x.cut(6);
            are(balloons(x, 11), 1, 6, 6, 6, 6, 6, 6, 1);
        });
    }

    private static void heightsOfBalloons() {
        String section = "Promise 20: balloon";
        edge(section, "5: its height, told by mending: at first all heights are those that are wanted, and a balloon that is"
            + " higher than its neighbour and the ribbon between both together comes down to that, again and again, until none"
            + " is;", () -> {
                are(balloons(high(), 5), 999, 999, 999, 999, 999, 999, 999, 999);
                are(balloons(low(), 5), 0, 0, 0, 0, 0, 0, 0, 0);
                // Just as high as its neighbour and the ribbon: it stays; and down from either end.
                RibbonBalloons x = fresh();
                drop(x, 0, 2);
                is(x.balloon(0, 5), 400);
                RibbonBalloons y = chain(1);
                y.vent(7, 60);
                are(balloons(y, 5), 7, 6, 5, 4, 3, 2, 1, 0);
                y.vent(0, 60);
                are(balloons(y, 5), 0, 1, 2, 3, 3, 2, 1, 0);
                y.cut(4);
                are(balloons(y, 5), 0, 1, 2, 3, 4, 2, 1, 0);
            });
        edge(section, "6: its height, told by all balloons of its string;", () -> {
            are(balloons(high(), 6), 999, 999, 999, 999, 999, 999, 999, 999);
            are(balloons(low(), 6), 0, 0, 0, 0, 0, 0, 0, 0);
            RibbonBalloons x = fresh();
            drop(x, 0, 2);
            is(x.balloon(0, 6), 400);
            RibbonBalloons y = chain(1);
            y.vent(7, 60);
            are(balloons(y, 6), 7, 6, 5, 4, 3, 2, 1, 0);
            y.vent(0, 60);
            are(balloons(y, 6), 0, 1, 2, 3, 3, 2, 1, 0);
            y.cut(4);
            are(balloons(y, 6), 0, 1, 2, 3, 4, 2, 1, 0);
        });
    }

    private static void ribbon() {
        String section = "Promise 21: ribbon";
        plain(section, "Tells something of a ribbon.", NUMBER);
        edge(section, "- `ribbon`: 0 to 6", () -> {
            RibbonBalloons x = fresh();
            x.bear(0, 1);
            x.bear(6, 2);
            are(ribbons(x, 2), 1, 150, 150, 150, 150, 150, 2);
        });
        edge(section, "Throws `IndexOutOfBoundsException` if there is no such ribbon", () -> {
            RibbonBalloons x = fresh();
            noRibbon(x, r -> x.ribbon(r, 0));
            noRibbon(x, r -> x.ribbon(r, 4));
        });
        edge(section, "Throws `IllegalArgumentException` if what is not 0 to 4", () -> {
            RibbonBalloons x = fresh();
            outside(x, 0, 4, what -> x.ribbon(0, what));
            is(x.ribbon(0, 0), 1);
            is(x.ribbon(0, 4), 0);
        });
        edge(section, "- `what`: 0: 1 if it is tied, otherwise 0;", () -> {
            are(ribbons(fresh(), 0), 1, 1, 1, 1, 1, 1, 1);
            are(ribbons(cutUp(), 0), 0, 0, 0, 0, 0, 0, 0);
        });
        edge(section, "1: its length (of one that is not tied that which it had);", () -> {
            are(ribbons(cutUp(), 1), 100, 100, 100, 100, 100, 100, 100);
            RibbonBalloons x = chain(0);
            x.cut(0);
            is(x.ribbon(0, 1), 0);
            x.tie(0, 300);
            x.cut(0);
            is(x.ribbon(0, 1), 300);
            // Cut by work, and snapped.
            work(x, "c1");
            is(x.ribbon(1, 1), 0);
            RibbonBalloons y = risen(1);
            y.pass(1);
            is(y.ribbon(0, 0), 0);
            is(y.ribbon(0, 1), 1);
        });
        edge(section, "2: the pull that it bears;", () -> {
            RibbonBalloons x = fresh();
            x.bear(0, 0);
            x.bear(6, 500);
            x.cut(6);
            are(ribbons(x, 2), 0, 150, 150, 150, 150, 150, 500);
        });
        edge(section, "3: the pull at it, 0 if it is not tied;", () -> {
            RibbonBalloons x = full();
            is(x.ribbon(0, 3), 999);
            x.cut(0);
            is(x.ribbon(0, 3), 0);
            are(ribbons(fresh(), 3), 0, 0, 0, 0, 0, 0, 0);
        });
        edge(section, "4: 1 if it would snap by that, if no other one did, otherwise 0", () -> {
            RibbonBalloons x = risen(300);
            x.bear(0, 390);
            is(x.ribbon(0, 4), 0);
            x.bear(0, 389);
            is(x.ribbon(0, 4), 1);
            x.cut(0);
            is(x.ribbon(0, 4), 0);
            // All of them, though just one can snap in an hour; and none by a pull of 0.
            RibbonBalloons y = chain(0);
            y.vent(0, 60);
            for (int r = 0; r < 7; r++) {
                y.bear(r, 299);
            }
            are(ribbons(y, 4), 1, 1, 1, 1, 1, 1, 1);
            RibbonBalloons z = fresh();
            z.bear(0, 0);
            is(z.ribbon(0, 4), 0);
        });
    }

    private static void noted() {
        String section = "Promise 22: noted";
        plain(section, "Tells of a note.");
        edge(section, "- `rank`: 0 for the oldest one, and so on", () -> {
            RibbonBalloons x = fresh();
            for (int hour = 0; hour < 21; hour++) {
                x.note(hour % 8);
                x.pass(1);
            }
            is(x.noted(0, 1), 1);
            is(x.noted(1, 1), 2);
            is(x.noted(19, 1), 20);
        });
        edge(section, "- `what`: 0: the balloon;", () -> {
            RibbonBalloons x = fresh();
            x.note(7);
            x.note(0);
            is(x.noted(0, 0), 7);
            is(x.noted(1, 0), 0);
        });
        edge(section, "1: the hour;", () -> {
            RibbonBalloons x = fresh();
            x.note(7);
            x.pass(99);
            x.note(7);
            is(x.noted(0, 1), 0);
            is(x.noted(1, 1), 99);
        });
        edge(section, "2: what was told", () -> {
            RibbonBalloons x = full();
            x.cut(0);
            x.note(1);
            x.note(0);
            x.tune(0, -20);
            x.pass(1);
            x.note(0);
            is(x.noted(0, 2), 999);
            is(x.noted(1, 2), 0);
            is(x.noted(2, 2), -5);
        });
        edge(section, "Returns the number; NONE if there are not so many.", () -> {
            RibbonBalloons x = fresh();
            for (int what = 0; what <= 2; what++) {
                is(x.noted(0, what), NONE);
                is(x.noted(20, what), NONE);
                is(x.noted(Integer.MAX_VALUE, what), NONE);
            }
            x.note(0);
            are(note(x, 0), 0, 0, 300);
            are(note(x, 1), NONE, NONE, NONE);
            x.undo();
            are(note(x, 0), NONE, NONE, NONE);
            work(x, "n0;n1;n2;n3;n4;n5;n6;n7;h1");
            work(x, "n0;n1;n2;n3;n4;n5;n6;n7;h1;n0;n1;n2;n3");
            are(note(x, 19), 3, 2, 280);
            are(note(x, 20), NONE, NONE, NONE);
            x.note(4);
            are(note(x, 19), 4, 2, 280);
            are(note(x, 20), NONE, NONE, NONE);
        });
        edge(section, "Throws `IndexOutOfBoundsException` if rank is below 0", () -> {
            RibbonBalloons x = fresh();
            x.note(0);
            index(x, () -> x.noted(-1, 0));
            index(x, () -> x.noted(-1000, 2));
            index(x, () -> x.noted(Integer.MIN_VALUE, 0));
        });
        edge(section, "Throws `IllegalArgumentException` if what is not 0 to 2", () -> {
            RibbonBalloons x = fresh();
            outside(x, 0, 2, what -> x.noted(0, what));
            x.note(0);
            outside(x, 0, 2, what -> x.noted(0, what));
        });
    }

    private static void count() {
        String section = "Promise 23: count";
        plain(section, "Returns a number.", NUMBER);
        edge(section, "Throws `IllegalArgumentException` if what is not 0 to 14", () -> {
            RibbonBalloons x = fresh();
            outside(x, 0, 14, what -> x.count(what));
            is(x.count(0), 0);
            is(x.count(14), 0);
        });
        edge(section, "- `what`: 0: hours so far;", () -> {
            RibbonBalloons x = fresh();
            is(x.count(0), 0);
            x.pass(99);
            x.pass(99);
            is(x.count(0), 198);
        });
        edge(section, "1: gas in all balloons;", () -> {
            is(fresh().count(1), 480);
            is(low().count(1), 0);
            is(high().count(1), 7 * 200 + 159);
        });
        edge(section, "2: the same, told as the gas of the beginning and what was filled in, less what leaked and was let out;",
            () -> {
                is(fresh().count(2), 480);
                is(low().count(2), 0);
                is(high().count(2), 7 * 200 + 159);
                // What can not leak any more is not counted.
                RibbonBalloons x = high();
                x.pass(99);
                x.pass(99);
                x.pass(99);
                is(x.count(2), 0);
                is(x.count(1), 0);
            });
        edge(section, "3: gas filled in so far;", () -> {
            is(fresh().count(3), 0);
            is(full().count(3), 200);
            RibbonBalloons x = full();
            x.vent(1, 99);
            is(x.count(3), 200);
            is(work(x, "f199;f199"), 1);
            is(x.count(3), 299);
            x.undo();
            is(x.count(3), 200);
        });
        edge(section, "4: gas that leaked so far;", () -> {
            is(fresh().count(4), 0);
            is(low().count(4), 480);
            RibbonBalloons x = low();
            x.leak(0, 9);
            x.pass(99);
            is(x.count(4), 480);
        });
        edge(section, "5: gas let out so far;", () -> {
            is(fresh().count(5), 0);
            is(low().count(5), 0);
            RibbonBalloons x = kite(0);
            is(x.count(5), 120);
            x.fill(1, 1);
            x.vent(1, 1);
            is(x.count(5), 121);
        });
        edge(section, "6: ribbons that are tied;", () -> {
            is(fresh().count(6), 7);
            is(cutUp().count(6), 0);
            RibbonBalloons x = cutUp();
            x.tie(6, 0);
            is(x.count(6), 1);
        });
        edge(section, "7: ribbons that snapped so far;", () -> {
            is(cutUp().count(7), 0);
            RibbonBalloons x = full();
            is(x.count(7), 0);
            work(x, "h99");
            is(x.count(7), 1);
            x.pass(99);
            is(x.count(7), 1);
        });
        edge(section, "8: strings;", () -> {
            is(fresh().count(8), 1);
            is(cutUp().count(8), 8);
            is(kite(0).count(8), 2);
        });
        edge(section, "9: all heights together;", () -> {
            is(low().count(9), 0);
            is(high().count(9), 8 * 999);
            is(risen(1).count(9), 1 + 6 * 300);
        });
        edge(section, "10: the highest balloon, of several the lowest number;", () -> {
            is(fresh().count(10), 0);
            is(low().count(10), 0);
            is(high().count(10), 0);
            RibbonBalloons x = fresh();
            for (int b = 7; b >= 0; b--) {
                x.drop(b);
                is(x.count(10), b);
            }
            x.vent(0, 1);
            is(x.count(10), 1);
        });
        edge(section, "11: balloons on the ground;", () -> {
            is(fresh().count(11), 0);
            is(low().count(11), 8);
            is(kite(0).count(11), 2);
            is(risen(0).count(11), 2);
            is(risen(1).count(11), 1);
        });
        edge(section, "12: bags dropped so far;", () -> {
            is(fresh().count(12), 0);
            is(withoutBags().count(12), 32);
            RibbonBalloons x = kite(0);
            x.put(0);
            is(x.count(12), 0);
            x.drop(0);
            is(x.count(12), 1);
            is(work(x, "d2;d2;d2;d2;d2"), 4);
            is(x.count(12), 5);
            x.undo();
            is(x.count(12), 1);
        });
        edge(section, "13: notes;", () -> {
            RibbonBalloons x = fresh();
            is(x.count(13), 0);
            work(x, "n0;n1;n2;n3;n4;n5;n6;n7;h1");
            work(x, "n0;n1;n2;n3;n4;n5;n6;n7;h1;n0;n1;n2");
            is(x.count(13), 19);
            x.note(3);
            is(x.count(13), 20);
            x.note(4);
            is(x.count(13), 20);
        });
        edge(section, "14: saved states", () -> {
            RibbonBalloons x = fresh();
            is(x.count(14), 0);
            for (int call = 1; call <= 8; call++) {
                x.drop(call - 1);
                is(x.count(14), Math.min(call, 6));
            }
            for (int left = 5; left >= 0; left--) {
                x.undo();
                is(x.count(14), left);
            }
        });
    }

    private static void why() {
        String section = "Promise 24: why";
        plain(section, "Tells why something can not be done.");
        edge(section, "- `which`: the number of the balloon, 0 to 7, or of the ribbon, 0 to 6", () -> {
            RibbonBalloons x = fresh();
            x.vent(7, 60);
            x.cut(6);
            for (int b = 0; b < 8; b++) {
                is(x.why(b, 0), b == 7 ? 0 : 2);
                is(x.why(b, 1), b == 7 ? 3 : 0);
            }
            for (int r = 0; r < 7; r++) {
                is(x.why(r, 4), r == 6 ? 8 : 7);
                is(x.why(r, 5), r == 6 ? 9 : 0);
            }
        });
        edge(section, "- `deed`: 0: 1 of gas is filled in;", () -> {
            RibbonBalloons x = full();
            is(x.why(1, 0), 1);
            x.vent(1, 1);
            is(x.why(1, 0), 0);
            is(risen(1).why(1, 0), 2);
            is(risen(0).why(1, 0), 0);
        });
        edge(section, "1: 1 of gas is let out;", () -> {
            RibbonBalloons x = kite(0);
            is(x.why(1, 1), 3);
            x.fill(1, 1);
            is(x.why(1, 1), 0);
        });
        edge(section, "2: a bag is dropped;", () -> {
            RibbonBalloons x = kite(0);
            drop(x, 1, 3);
            is(x.why(1, 2), 0);
            x.drop(1);
            is(x.why(1, 2), 4);
            x.put(1);
            is(x.why(1, 2), 0);
        });
        edge(section, "3: a bag is put in;", () -> {
            RibbonBalloons x = kite(0);
            put(x, 1, 5);
            is(x.why(1, 3), 0);
            x.put(1);
            is(x.why(1, 3), 5);
            is(risen(1).why(1, 3), 6);
            is(risen(0).why(1, 3), 0);
        });
        edge(section, "4: the ribbon is tied with the length 100;", () -> {
            RibbonBalloons x = fresh();
            is(x.why(0, 4), 7);
            x.cut(0);
            is(x.why(0, 4), 0);
            x.vent(0, 10);
            is(x.why(0, 4), 0);
            x.vent(0, 1);
            is(x.why(0, 4), 8);
            // Whatever length it had.
            x.tie(0, 300);
            x.cut(0);
            is(x.why(0, 4), 8);
        });
        edge(section, "5: it is cut", () -> {
            RibbonBalloons x = fresh();
            is(x.why(0, 5), 0);
            x.cut(0);
            is(x.why(0, 5), 9);
            is(x.why(1, 5), 0);
        });
        edge(section, "Returns 0 if it can be, otherwise 1 to 9.", () -> {
            RibbonBalloons x = fresh();
            for (int deed = 0; deed <= 5; deed++) {
                int why = x.why(0, deed);
                is(why == 0 ? 1 : 0, deed == 0 || deed == 3 || deed == 4 ? 0 : 1);
            }
            is(full().why(1, 0), 1);
            is(cutUp().why(0, 5), 9);
        });
        edge(section, "Throws `IndexOutOfBoundsException` if there is no such balloon, or, for 4 and 5, no such ribbon", () -> {
            RibbonBalloons x = fresh();
            for (int deed = 0; deed <= 3; deed++) {
                int asked = deed;
                noBalloon(x, b -> x.why(b, asked));
            }
            noRibbon(x, r -> x.why(r, 4));
            noRibbon(x, r -> x.why(r, 5));
            is(x.why(7, 0), 2);
            is(x.why(7, 3), 6);
            is(x.why(6, 4), 7);
        });
        edge(section, "Throws `IllegalArgumentException` if deed is not 0 to 5", () -> {
            RibbonBalloons x = fresh();
            outside(x, 0, 5, deed -> x.why(0, deed));
            outside(x, 0, 5, deed -> x.why(7, deed));
        });
    }

    private static void stopped() {
        String section = "Promise 25: stopped";
        plain(section, "Tells of the latest stop of work().");
        edge(section, "- `what`: 0: the number of the part that stopped it, from 0;", () -> {
            RibbonBalloons x = fresh();
            work(x, "p0");
            is(x.stopped(0), 0);
            work(x, "h1;p0;h1");
            is(x.stopped(0), 1);
            work(x, "h1;h1;h1;h1;h1;h1;h1;h1;h1;h1;h1;h1;h1;h1;h1;h1;h1;h1;h1;p0");
            is(x.stopped(0), 19);
        });
        edge(section, "1: why: 1 to 9", () -> {
            RibbonBalloons x = full();
            work(x, "f11");
            is(x.stopped(1), 1);
            work(x, "f21");
            is(x.stopped(1), 2);
            work(x, "v01");
            is(x.stopped(1), 3);
            work(x, "d1");
            is(x.stopped(1), 4);
            work(x, "p0;p0;p0;p0;p0;p0;p0");
            is(x.stopped(1), 5);
            work(x, "p2");
            is(x.stopped(1), 6);
            work(x, "c1");
            is(x.stopped(1), 9);
        });
        edge(section, "Returns the number; NONE if there is no stop.", () -> {
            RibbonBalloons x = fresh();
            is(x.stopped(0), NONE);
            is(x.stopped(1), NONE);
            work(x, "p0");
            is(x.stopped(0), 0);
            is(x.stopped(1), 6);
            work(x, "n0");
            is(x.stopped(0), NONE);
            is(x.stopped(1), NONE);
            // Other calls that can not be done are no stop.
            state(x, () -> x.put(0));
            is(x.stopped(1), NONE);
        });
        edge(section, "Throws `IllegalArgumentException` if what is not 0 or 1", () -> {
            RibbonBalloons x = fresh();
            outside(x, 0, 1, what -> x.stopped(what));
            work(x, "p0");
            outside(x, 0, 1, what -> x.stopped(what));
        });
    }

    // ---- what would be

    private static void ifDropped() {
        String section = "Promise 26: ifDropped";
        plain(section, "Tells what a bag dropped would bring.");
        edge(section, BALLOON, () -> {
            RibbonBalloons x = fresh();
            x.vent(0, 1);
            x.vent(7, 2);
            is(x.ifDropped(0, 0), 340);
            is(x.ifDropped(7, 0), 330);
        });
        edge(section, "- `what`: 0: the height of the balloon then;", () -> {
            RibbonBalloons x = fresh();
            x.vent(0, 36);
            // A lift of -6, -1 and 4.
            is(x.ifDropped(0, 0), 0);
            x.drop(0);
            is(x.ifDropped(0, 0), 40);
            is(risen(1).ifDropped(1, 0), 1);
            is(high().ifDropped(1, 0), 999);
        });
        edge(section, "1: all heights together then;", () -> {
            is(low().ifDropped(0, 1), 0);
            is(high().ifDropped(7, 1), 8 * 999);
            RibbonBalloons x = chain(0);
            x.vent(7, 10);
            is(x.count(9), 8 * 200);
            is(x.ifDropped(7, 1), 8 * 250);
            is(x.ifDropped(0, 1), 8 * 200);
        });
        edge(section, "2: ribbons that would snap by their pulls then, if none of the others did, how many", () -> {
            RibbonBalloons x = fresh();
            drop(x, 1, 2);
            is(x.ribbon(0, 3), 0);
            x.bear(0, 50);
            x.bear(1, 50);
            is(x.ifDropped(1, 2), 0);
            x.bear(0, 49);
            is(x.ifDropped(1, 2), 1);
            x.bear(1, 49);
            is(x.ifDropped(1, 2), 2);
            is(x.ribbon(0, 4), 0);
            // All seven; and none any more by the bag that lets the others rise.
            RibbonBalloons y = chain(0);
            y.vent(0, 5);
            for (int r = 0; r < 7; r++) {
                y.bear(r, 49);
            }
            is(y.ifDropped(1, 2), 7);
            is(y.ifDropped(0, 2), 0);
        });
        edge(section, "Returns the number; NONE if there is no bag.", () -> {
            RibbonBalloons x = fresh();
            drop(x, 0, 3);
            is(x.ifDropped(0, 0), 400);
            is(x.ifDropped(0, 1), 2500);
            is(x.ifDropped(0, 2), 0);
            x.drop(0);
            is(x.ifDropped(0, 0), NONE);
            is(x.ifDropped(0, 1), NONE);
            is(x.ifDropped(0, 2), NONE);
        });
        edge(section, NO_BALLOON, () -> {
            RibbonBalloons x = fresh();
            noBalloon(x, b -> x.ifDropped(b, 0));
        });
        edge(section, "Throws `IllegalArgumentException` if what is not 0 to 2", () -> {
            RibbonBalloons x = fresh();
            outside(x, 0, 2, what -> x.ifDropped(0, what));
            RibbonBalloons y = withoutBags();
            outside(y, 0, 2, what -> y.ifDropped(0, what));
        });
    }

    private static void landsIn() {
        String section = "Promise 27: landsIn";
        plain(section, "Tells when a balloon lands.");
        edge(section, BALLOON, () -> {
            RibbonBalloons x = fresh();
            x.leak(0, 9);
            x.leak(7, 5);
            is(x.landsIn(0), 4);
            is(x.landsIn(7), 6);
            is(x.landsIn(3), 30);
        });
        edge(section, "Returns behind how many hours, if they pass, it is on the ground for the first time,", () -> {
            RibbonBalloons x = cutUp();
            x.vent(0, 29);
            is(x.landsIn(0), 1);
            x.vent(1, 20);
            x.leak(1, 9);
            // 40, 31, 22
            is(x.landsIn(1), 2);
            x.vent(1, 1);
            is(x.landsIn(1), 1);
            // With its neighbour, though it leaks nothing itself, until the ribbon snaps an hour later.
            RibbonBalloons y = cutUp();
            y.leak(2, 9);
            y.leak(3, 0);
            y.tie(2, 1);
            is(y.landsIn(2), 4);
            is(y.landsIn(3), NONE);
            y.cut(2);
            y.tie(2, 0);
            y.bear(2, 299);
            // The ribbon snaps in the hour of the landing, so that the one without a leak is up then.
            is(y.landsIn(2), 4);
            is(y.landsIn(3), NONE);
            y.bear(2, 300);
            is(y.landsIn(3), 4);
        });
        edge(section, "0 if it is now;", () -> {
            is(kite(0).landsIn(0), 0);
            is(low().landsIn(7), 0);
            // Held on the ground, and free in an hour.
            is(full().landsIn(1), 0);
            RibbonBalloons x = fresh();
            x.vent(0, 29);
            is(x.landsIn(0), 1);
            x.vent(0, 1);
            is(x.landsIn(0), 0);
        });
        // A balloon has 200 of gas at most, and with a leak of 1 it wants 0 behind 190 hours; by then each one
        // has landed that ever does: nothing but a leak lets heights become less.
        edge(section, "NONE if not within 200.", () -> {
            RibbonBalloons x = full();
            x.cut(0);
            is(x.landsIn(1), 190);
            x.leak(1, 0);
            is(x.landsIn(1), NONE);
            is(lastFall(199).landsIn(1), 190);
            is(lastFall(199).landsIn(2), NONE);
        });
        edge(section, NO_BALLOON, () -> {
            RibbonBalloons x = fresh();
            noBalloon(x, b -> x.landsIn(b));
        });
    }

    private static void snapsIn() {
        String section = "Promise 28: snapsIn";
        plain(section, "Tells when the next ribbon snaps.");
        edge(section, "Returns behind how many hours, in the last one of them;", () -> {
            RibbonBalloons x = full();
            is(x.snapsIn(), 1);
            is(x.pass(1), 1);
            is(x.snapsIn(), NONE);
            // The pull is 199 now, less for long, and 200 in the 190th hour.
            is(lastFall(199).snapsIn(), 190);
            RibbonBalloons y = lastFall(199);
            is(y.pass(99), 0);
            is(y.pass(90), 0);
            is(y.snapsIn(), 1);
            is(y.pass(1), 1);
            is(lastFall(198).snapsIn(), 1);
        });
        // Behind 190 hours no balloon wants less than before, so that no first snap can come later.
        edge(section, "NONE if none does within 200.", () -> {
            is(fresh().snapsIn(), NONE);
            is(cutUp().snapsIn(), NONE);
            is(lastFall(200).snapsIn(), NONE);
            is(low().snapsIn(), NONE);
            // It would snap by the pull now, but not by that of the next hour.
            RibbonBalloons x = fresh();
            drop(x, 0, 4);
            x.leak(0, 3);
            x.bear(0, 99);
            is(x.ribbon(0, 4), 1);
            is(x.snapsIn(), NONE);
        });
    }

    private static void bestBag() {
        String section = "Promise 29: bestBag";
        plain(section, "Finds the bag that lifts the most.");
        edge(section, "Returns the balloon, of those with bags, with the greatest ifDropped(.., 1),", () -> {
            RibbonBalloons x = fresh();
            for (int b = 0; b < 7; b++) {
                drop(x, b, 4);
            }
            is(x.bestBag(), 7);
            // The one that holds the others has no bags: of those with bags one that lifts nothing.
            RibbonBalloons y = chain(0);
            drop(y, 0, 4);
            y.vent(0, 30);
            is(y.ifDropped(0, 1), NONE);
            is(y.bestBag(), 1);
            is(low().bestBag(), 0);
            // A bag of a balloon on the ground that lets four rise by 10, or by 20; another one lifts by 50.
            RibbonBalloons z = fresh();
            z.vent(6, 34);
            is(z.bestBag(), 0);
            RibbonBalloons w = fresh();
            w.vent(6, 33);
            is(w.bestBag(), 6);
        });
        edge(section, "of several the lowest;", () -> {
            is(fresh().bestBag(), 0);
            is(high().bestBag(), 0);
            RibbonBalloons x = cutUp();
            drop(x, 0, 4);
            is(x.ifDropped(1, 1), x.ifDropped(7, 1));
            is(x.bestBag(), 1);
        });
        edge(section, "NONE if there are no bags.", () -> {
            is(withoutBags().bestBag(), NONE);
            RibbonBalloons x = withoutBags();
            x.undo();
            is(x.bestBag(), 7);
        });
    }

    private static void shares() {
        String section = "Promise 30: meanHeight";
        plain(section, "Returns the mean height.");
        edge(section, "Returns all heights together as a double, divided by 8.", () -> {
            mean(low(), 0.0);
            mean(high(), 999.0);
            mean(fresh(), 300.0);
            RibbonBalloons x = risen(1);
            for (int b = 2; b < 8; b++) {
                x.vent(b, 60);
            }
            mean(x, 0.125);
            RibbonBalloons y = risen(299);
            mean(y, (299 + 6 * 300) / 8.0);
        });
        section = "Promise 31: lostShare";
        plain(section, "Returns how much gas was lost.");
        edge(section, "Returns count(4) and count(5) together as a float, divided by 480 and count(3) together.", () -> {
            share(fresh(), 0f);
            share(low(), 1f);
            RibbonBalloons x = fresh();
            x.vent(0, 1);
            share(x, 1f / 480f);
            x.pass(1);
            share(x, 9f / 480f);
            RibbonBalloons y = full();
            share(y, 120f / 680f);
            y.leak(1, 9);
            y.pass(99);
            share(y, 1f);
        });
    }

    private static void mean(RibbonBalloons x, double due) {
        is(Double.doubleToRawLongBits(x.meanHeight()), Double.doubleToRawLongBits(due));
        hash(x, false, "");
    }

    private static void share(RibbonBalloons x, float due) {
        is(Float.floatToRawIntBits(x.lostShare()), Float.floatToRawIntBits(due));
        hash(x, false, "");
    }

    // ---- the hash

    private static void digest() {
        String section = "Promise 32: digest";
        plain(section, "Computes a hash of the whole state.", "The hash starts at 3821.", "Returns the hash.");
        edge(section, "For each value v of the following list, in order, the hash becomes 31 * hash + v,"
            + " in long arithmetic with overflow.", () -> {
                hash(fresh(), false, "");
                hash(high(), false, "");
                hash(low(), false, "");
                RibbonBalloons x = fresh();
                long before = x.digest();
                x.append(33);
                is(x.digest(), (before + 1) * 31 + 33);
            });
        edge(section, "The values are: count(0) to count(14);", () -> {
            RibbonBalloons x = full();
            x.pass(99);
            x.note(1);
            hash(x, false, "");
        });
        edge(section, "for each balloon its numbers 0 to 11, why of the deeds 0 to 3, ifDropped with 0 to 2, and landsIn;", () -> {
            RibbonBalloons x = full();
            x.tune(0, -20);
            x.tune(7, 20);
            x.leak(7, 0);
            x.leak(6, 9);
            hash(x, false, "");
            hash(withoutBags(), false, "");
            hash(lastFall(199), false, "");
        });
        edge(section, "for each ribbon its numbers 0 to 4, and why of the deeds 4 and 5;", () -> {
            RibbonBalloons x = risen(300);
            x.bear(0, 389);
            hash(x, false, "");
            hash(cutUp(), false, "");
            hash(chain(0), false, "");
        });
        edge(section, "for each note its numbers 0 to 2;", () -> {
            for (int more = 0; more <= 2; more++) {
                hash(withNotes(0, more), false, "");
                hash(withNotes(19, more), false, "");
            }
        });
        edge(section, "stopped with 0 and 1;", () -> {
            RibbonBalloons x = fresh();
            work(x, "n0;n0;f01");
            hash(x, false, "");
            RibbonBalloons y = fresh();
            work(y, "f01");
            work(y, "n0");
            hash(y, false, "");
        });
        edge(section, "snapsIn; bestBag;", () -> {
            hash(full(), false, "");
            hash(withoutBags(), false, "");
            RibbonBalloons x = withoutBags();
            x.undo();
            hash(x, false, "");
        });
        edge(section, "the bits of meanHeight (as Double.doubleToLongBits);", () -> {
            // From 0 over an eighth to more than 37.
            for (int length = 0; length <= 300; length++) {
                RibbonBalloons x = risen(length);
                for (int b = 2; b < 8; b++) {
                    x.vent(b, 60);
                }
                is(x.count(9), length);
                hash(x, false, "");
            }
        });
        edge(section, "the bits of lostShare (as Float.floatToIntBits);", () -> {
            // From 1 of 480 to all.
            for (int gas = 1; gas <= 60; gas++) {
                RibbonBalloons x = fresh();
                x.vent(0, gas);
                hash(x, false, "");
                RibbonBalloons y = fresh();
                y.vent(0, gas);
                y.pass(gas);
                hash(y, false, "");
            }
        });
        edge(section, "1 if there is a snapshot, otherwise 0;", () -> {
            RibbonBalloons x = fresh();
            long before = x.digest();
            x.keep();
            is(x.digest(), before + 31);
            x.drop(0);
            x.undo();
            x.keep();
            is(x.digest(), before + 31);
            hash(x, true, "");
        });
        edge(section, "the length of the buffer and each of its character codes.", () -> {
            StringBuilder text = new StringBuilder();
            for (int length = 0; length <= 60; length++) {
                RibbonBalloons x = fresh();
                Checks.type(x, text.toString());
                hash(x, false, text.toString());
                text.append(length % 2 == 0 ? '!' : '~');
            }
            // Of a longer text before nothing is left.
            RibbonBalloons x = fresh();
            Checks.type(x, "n0;n7");
            x.clearBuffer();
            x.append('h');
            hash(x, false, "h");
            RibbonBalloons y = fresh();
            work(y, "n0;n7");
            hash(y, false, "");
        });
    }

    private static RibbonBalloons withNotes(int first, int more) {
        RibbonBalloons x = fresh();
        for (int made = 0; made < first + more; made++) {
            x.note(7 - made % 8);
            if (made % 8 == 7) {
                x.pass(9);
            }
        }
        is(x.count(13), Math.min(first + more, 20));
        return x;
    }

    private static void hash(RibbonBalloons x, boolean kept, String buffer) {
        is(x.digest(), Hash.of(x, kept, buffer));
    }

    public static void main(String[] args) {
        balloon();
        heightsOfBalloons();
        ribbon();
        noted();
        count();
        why();
        stopped();
        ifDropped();
        landsIn();
        snapsIn();
        bestBag();
        shares();
        digest();
        end("LookEdgeTests", "Promise 20: balloon", "Promise 21: ribbon", "Promise 22: noted", "Promise 23: count",
            "Promise 24: why", "Promise 25: stopped", "Promise 26: ifDropped", "Promise 27: landsIn", "Promise 28: snapsIn",
            "Promise 29: bestBag", "Promise 30: meanHeight", "Promise 31: lostShare", "Promise 32: digest");
    }
}
