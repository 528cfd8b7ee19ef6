import java.util.function.Consumer;
import java.util.function.Supplier;
import java.util.function.ToLongFunction;

/** The boundary cases that the document's terms name, sentence by sentence. */
public final class TermEdgeTests extends Edges {
    private static final int NONE = RibbonBalloons.NONE;

    private static void whatItIs() {
        String section = "What it is";
        plain(section, "Altimeters of balloons tied in a row by ribbons:", "what later calls answer is free.");
        edge(section, "An object is used for at most 512 calls after it has been made;", () -> {
            RibbonBalloons x = fresh();
            for (int call = 1; call <= 511; call++) {
                x.leak(0, call % 10);
            }
            is(x.leak(0, 5), 1);
            RibbonBalloons y = fresh();
            y.tune(0, -20);
            for (int call = 2; call <= 511; call++) {
                y.pass(99);
            }
            is(y.balloon(0, 9), -20 * 510 * 99 / 4);
            RibbonBalloons z = fresh();
            for (int call = 1; call <= 511; call++) {
                try {
                    z.append('h');
                } catch (IllegalStateException full) {
                    is(call > 60 ? 1 : 0, 1);
                }
            }
            is(z.clearBuffer(), 60);
        });
    }

    private static void terms() {
        String section = "Terms";
        plain(section, "All numbers are integers, but for two shares;");
        edge(section, "divisions are rounded towards 0.", () -> {
            RibbonBalloons x = fresh();
            x.tune(0, -3);
            x.tune(1, 3);
            x.pass(1);
            is(x.balloon(0, 9), 290);
            is(x.balloon(1, 9), 290);
            x.pass(1);
            is(x.balloon(0, 9), 280 - 1);
            is(x.balloon(1, 9), 280 + 1);
        });
    }

    private static void balloonsAtFirst() {
        String section = "Balloons";
        edge(section, "There are 8 balloons in a row, numbered from 0.", () -> {
            RibbonBalloons x = fresh();
            is(x.balloon(0, 11), 8);
            is(x.balloon(7, 11), 8);
            is(x.balloon(7, 10), 0);
            index(x, () -> x.balloon(-1, 0));
            index(x, () -> x.balloon(8, 0));
        });
        edge(section, "A balloon has gas, 0 to 200, at first 60;", () -> {
            are(balloons(fresh(), 0), 60, 60, 60, 60, 60, 60, 60, 60);
            RibbonBalloons x = kite(0);
            is(x.balloon(1, 0), 0);
            state(x, () -> x.vent(1, 1));
            x.fill(1, 99);
            x.fill(1, 99);
            is(x.fill(1, 2), 200);
            state(x, () -> x.fill(1, 1));
        });
        edge(section, "bags, 0 to 10, at first 4;", () -> {
            are(balloons(fresh(), 1), 4, 4, 4, 4, 4, 4, 4, 4);
            RibbonBalloons x = kite(0);
            put(x, 1, 5);
            is(x.put(1), 10);
            state(x, () -> x.put(1));
            drop(x, 1, 10);
            is(x.balloon(1, 1), 0);
            state(x, () -> x.drop(1));
        });
        edge(section, "a leak, 0 to 9, at first 1;", () -> {
            RibbonBalloons x = fresh();
            are(balloons(x, 2), 1, 1, 1, 1, 1, 1, 1, 1);
            x.leak(0, 0);
            is(x.balloon(0, 2), 0);
            x.leak(0, 9);
            is(x.balloon(0, 2), 9);
            argument(x, () -> x.leak(0, -1));
            argument(x, () -> x.leak(0, 10));
        });
        edge(section, "and an altimeter with a drift, -20 to 20, at first 0.", () -> {
            RibbonBalloons x = fresh();
            are(balloons(x, 7), 0, 0, 0, 0, 0, 0, 0, 0);
            x.tune(0, -20);
            is(x.balloon(0, 7), -20);
            x.tune(0, 20);
            is(x.balloon(0, 7), 20);
            argument(x, () -> x.tune(0, -21));
            argument(x, () -> x.tune(0, 21));
        });
    }

    private static void liftsAndWantedHeights() {
        String section = "Balloons";
        edge(section, "The lift of a balloon is its gas, less 10, and less 5 for each bag.", () -> {
            RibbonBalloons x = kite(0);
            is(x.balloon(1, 3), -30);
            put(x, 1, 6);
            is(x.balloon(1, 3), -60);
            x.fill(1, 60);
            is(x.balloon(1, 3), 0);
            x.fill(1, 1);
            is(x.balloon(1, 3), 1);
            x.fill(1, 99);
            x.fill(1, 40);
            is(x.balloon(1, 3), 140);
            drop(x, 1, 10);
            is(x.balloon(1, 3), 190);
        });
        edge(section, "The height that it wants is 10 times its lift, but at least 0", () -> {
            RibbonBalloons x = kite(0);
            is(x.balloon(1, 4), 0);
            x.fill(1, 29);
            is(x.balloon(1, 3), -1);
            is(x.balloon(1, 4), 0);
            x.fill(1, 1);
            is(x.balloon(1, 3), 0);
            is(x.balloon(1, 4), 0);
            x.fill(1, 1);
            is(x.balloon(1, 4), 10);
        });
        edge(section, "and at most 999.", () -> {
            RibbonBalloons x = kite(0);
            drop(x, 1, 4);
            x.fill(1, 99);
            x.fill(1, 10);
            is(x.balloon(1, 3), 99);
            is(x.balloon(1, 4), 990);
            x.fill(1, 1);
            is(x.balloon(1, 3), 100);
            is(x.balloon(1, 4), 999);
            x.fill(1, 90);
            is(x.balloon(1, 3), 190);
            is(x.balloon(1, 4), 999);
            x.cut(0);
            is(x.balloon(1, 5), 999);
            is(x.balloon(1, 6), 999);
        });
        plain(section, "Ribbons, heights", "Altimeters, notes");
    }

    private static void ribbonsAtFirst() {
        String section = "Balloons";
        edge(section, "There are 7 ribbons;", () -> {
            RibbonBalloons x = fresh();
            is(x.count(6), 7);
            is(x.ribbon(0, 0), 1);
            is(x.ribbon(6, 0), 1);
            index(x, () -> x.ribbon(-1, 0));
            index(x, () -> x.ribbon(7, 0));
        });
        edge(section, "the ribbon r is between the balloons r and r + 1.", () -> {
            RibbonBalloons x = fresh();
            x.cut(0);
            are(balloons(x, 10), 0, 1, 1, 1, 1, 1, 1, 1);
            x.cut(6);
            are(balloons(x, 10), 0, 1, 1, 1, 1, 1, 1, 7);
            are(balloons(x, 11), 1, 6, 6, 6, 6, 6, 6, 1);
        });
        edge(section, "A ribbon is tied, as at first, or not;", () -> {
            RibbonBalloons x = fresh();
            are(ribbons(x, 0), 1, 1, 1, 1, 1, 1, 1);
            x.cut(0);
            x.cut(6);
            are(ribbons(x, 0), 0, 1, 1, 1, 1, 1, 0);
        });
        edge(section, "it has a length, 0 to 300, at first 100,", () -> {
            RibbonBalloons x = fresh();
            are(ribbons(x, 1), 100, 100, 100, 100, 100, 100, 100);
            x.cut(3);
            argument(x, () -> x.tie(3, -1));
            argument(x, () -> x.tie(3, 301));
            x.tie(3, 0);
            is(x.ribbon(3, 1), 0);
            x.cut(3);
            x.tie(3, 300);
            is(x.ribbon(3, 1), 300);
        });
        edge(section, "and bears a pull of 0 to 500, at first 150.", () -> {
            RibbonBalloons x = fresh();
            are(ribbons(x, 2), 150, 150, 150, 150, 150, 150, 150);
            x.bear(0, 0);
            is(x.ribbon(0, 2), 0);
            x.bear(0, 500);
            is(x.ribbon(0, 2), 500);
            argument(x, () -> x.bear(0, -1));
            argument(x, () -> x.bear(0, 501));
        });
    }

    private static void heights() {
        String section = "Balloons";
        edge(section, "The heights of the balloons are the greatest ones with these two properties:", () -> {
            RibbonBalloons x = chain(0);
            x.cut(2);
            drop(x, 0, 1);
            drop(x, 1, 1);
            drop(x, 2, 1);
            // 300 for both would have the two properties too.
            are(balloons(x, 5), 350, 350, 350, 300, 300, 300, 300, 300);
            are(balloons(x, 6), 350, 350, 350, 300, 300, 300, 300, 300);
        });
        edge(section, "no balloon is higher than it wants;", () -> {
            RibbonBalloons x = fresh();
            drop(x, 0, 2);
            is(x.balloon(0, 6), 400);
            x.vent(0, 1);
            is(x.balloon(0, 6), 390);
            x.vent(0, 38);
            is(x.balloon(0, 6), 10);
            x.vent(0, 1);
            is(x.balloon(0, 6), 0);
            x.vent(0, 1);
            is(x.balloon(0, 6), 0);
            x.vent(0, 19);
            is(x.balloon(0, 6), 0);
            is(x.balloon(0, 5), 0);
        });
        edge(section, "and the heights of two balloons with a tied ribbon between differ by its length at most.", () -> {
            for (int length : new int[] {0, 1, 299, 300}) {
                RibbonBalloons x = risen(length);
                is(x.balloon(1, 5), length);
                is(x.balloon(1, 6), length);
                x.cut(0);
                is(x.balloon(1, 6), 690);
            }
            RibbonBalloons y = fresh();
            y.vent(3, 60);
            are(balloons(y, 5), 300, 200, 100, 0, 100, 200, 300, 300);
        });
        plain(section, "(There is just one such row of heights.");
        edge(section, "So the height of a balloon is the least, over all balloons of its string,", () -> {
            RibbonBalloons x = chain(10);
            x.vent(0, 60);
            are(balloons(x, 6), 0, 10, 20, 30, 40, 50, 60, 70);
            are(balloons(x, 5), 0, 10, 20, 30, 40, 50, 60, 70);
            x.cut(3);
            are(balloons(x, 6), 0, 10, 20, 30, 300, 300, 300, 300);
            x.vent(7, 60);
            are(balloons(x, 6), 0, 10, 20, 30, 30, 20, 10, 0);
            are(balloons(x, 5), 0, 10, 20, 30, 30, 20, 10, 0);
        });
        edge(section, "of the height that this one wants and the lengths of all ribbons between both, together.)", () -> {
            RibbonBalloons x = chain(41);
            x.vent(0, 60);
            // 7 times 41 is 287, less than 300; 8 times would be more.
            are(balloons(x, 6), 0, 41, 82, 123, 164, 205, 246, 287);
            x.drop(7);
            is(x.balloon(7, 6), 287);
            x.undo();
            x.vent(7, 1);
            is(x.balloon(7, 6), 287);
            x.vent(7, 1);
            is(x.balloon(7, 6), 280);
            // Of one alone there is none between.
            RibbonBalloons y = cutUp();
            y.vent(6, 60);
            are(balloons(y, 6), 300, 300, 300, 300, 300, 300, 0, 300);
        });
        edge(section, "A string is a row of balloons, as long as can be, with tied ribbons between.", () -> {
            RibbonBalloons x = fresh();
            is(x.count(8), 1);
            are(balloons(x, 11), 8, 8, 8, 8, 8, 8, 8, 8);
            RibbonBalloons y = cutUp();
            is(y.count(8), 8);
            are(balloons(y, 10), 0, 1, 2, 3, 4, 5, 6, 7);
            are(balloons(y, 11), 1, 1, 1, 1, 1, 1, 1, 1);
            y.tie(3, 0);
            is(y.count(8), 7);
            are(balloons(y, 10), 0, 1, 2, 3, 3, 5, 6, 7);
            are(balloons(y, 11), 1, 1, 1, 2, 2, 1, 1, 1);
        });
        edge(section, "A balloon is on the ground if its height is 0.", () -> {
            is(risen(0).count(11), 2);
            is(risen(0).why(1, 0), 0);
            is(risen(0).landsIn(1), 0);
            is(risen(1).count(11), 1);
            is(risen(1).why(1, 0), 2);
            is(risen(1).landsIn(1), NONE);
        });
    }

    private static void pulls() {
        String section = "Balloons";
        edge(section, "The pull at a tied ribbon is 0, unless its two balloons differ in height by just its length,", () -> {
            RibbonBalloons x = fresh();
            x.cut(1);
            x.tie(1, 99);
            drop(x, 1, 3);
            is(x.balloon(1, 6), 399);
            is(x.ribbon(0, 3), 0);
            is(x.ribbon(1, 3), 51);
            x.cut(1);
            is(x.balloon(1, 6), 400);
            is(x.ribbon(0, 3), 50);
            is(x.ribbon(1, 3), 0);
        });
        edge(section, "wants more than its height:", () -> {
            RibbonBalloons x = fresh();
            drop(x, 1, 2);
            is(x.balloon(1, 6) - x.balloon(0, 6), 100);
            is(x.ribbon(0, 3), 0);
            x.drop(1);
            x.vent(1, 4);
            is(x.balloon(1, 4), 410);
            is(x.ribbon(0, 3), 10);
            is(x.ribbon(1, 3), 10);
            x.vent(1, 1);
            is(x.balloon(1, 4), 400);
            is(x.ribbon(0, 3), 0);
            is(x.ribbon(1, 3), 0);
        });
        edge(section, "(if the length is 0, that of them that wants the greater height;", () -> {
            RibbonBalloons x = fresh();
            x.cut(1);
            x.cut(0);
            x.tie(0, 0);
            is(x.ribbon(0, 3), 0);
            x.drop(1);
            is(x.ribbon(0, 3), 50);
            drop(x, 0, 2);
            is(x.ribbon(0, 3), 50);
            x.drop(0);
            is(x.ribbon(0, 3), 100);
            // Both are held, and the one that wants more is the higher one, on either side.
            RibbonBalloons y = chain(0);
            y.vent(2, 60);
            y.drop(1);
            is(y.ribbon(0, 3), 350);
            drop(y, 0, 2);
            is(y.ribbon(0, 3), 400);
        });
        edge(section, "of like ones the lower number)", () -> {
            RibbonBalloons x = chain(0);
            is(x.ribbon(0, 3), 0);
            x.vent(2, 60);
            is(x.ribbon(0, 3), 300);
            is(x.ribbon(1, 3), 300);
            is(x.ribbon(2, 3), 300);
            is(x.ribbon(6, 3), 300);
        });
        edge(section, "then it is by how much it wants more.", () -> {
            is(full().ribbon(0, 3), 999);
            is(risen(0).ribbon(0, 3), 690);
            is(risen(1).ribbon(0, 3), 689);
            is(risen(300).ribbon(0, 3), 390);
        });
    }

    private static void altimeters() {
        String section = "Balloons";
        edge(section, "An altimeter tells the height of its balloon and, added to it, a quarter (rounded towards 0) of its drift",
            () -> {
                RibbonBalloons x = fresh();
                int[] drifts = {1, -1, 3, -3, 20, -20, 0, 2};
                for (int b = 0; b < 8; b++) {
                    x.vent(b, 60);
                    x.tune(b, drifts[b]);
                }
                are(balloons(x, 9), 0, 0, 0, 0, 0, 0, 0, 0);
                x.pass(1);
                are(balloons(x, 9), 0, 0, 0, 0, 5, -5, 0, 0);
                x.pass(1);
                are(balloons(x, 9), 0, 0, 1, -1, 10, -10, 0, 1);
                x.pass(1);
                are(balloons(x, 9), 0, 0, 2, -2, 15, -15, 0, 1);
                x.pass(1);
                are(balloons(x, 9), 1, -1, 3, -3, 20, -20, 0, 2);
                x.pass(3);
                are(balloons(x, 9), 1, -1, 5, -5, 35, -35, 0, 3);
            });
        edge(section, "times the hours since it was tuned the last time", () -> {
            RibbonBalloons x = fresh();
            x.vent(0, 60);
            x.tune(0, 20);
            x.pass(3);
            is(x.balloon(0, 9), 15);
            x.tune(0, 20);
            is(x.balloon(0, 9), 0);
            x.pass(1);
            is(x.balloon(0, 9), 5);
        });
        edge(section, "(at first: since the beginning).", () -> {
            RibbonBalloons x = fresh();
            are(balloons(x, 8), 0, 0, 0, 0, 0, 0, 0, 0);
            x.pass(7);
            x.tune(0, 0);
            are(balloons(x, 8), 0, 7, 7, 7, 7, 7, 7, 7);
        });
        edge(section, "What is told can be below 0.", () -> {
            RibbonBalloons x = fresh();
            x.vent(0, 60);
            x.tune(0, -1);
            x.pass(4);
            is(x.balloon(0, 9), -1);
            is(x.note(0), -1);
            is(x.noted(0, 2), -1);
            is(x.tune(0, -20), -1);
            // Just what NONE is, but told.
            x.pass(99);
            x.pass(99);
            x.pass(2);
            is(x.note(0), -1000);
            is(x.noted(1, 2), -1000);
            is(x.noted(1, 1), 204);
        });
    }

    private static void notes() {
        String section = "Balloons";
        edge(section, "A note has the balloon, the hour, and what the altimeter told then.", () -> {
            RibbonBalloons x = fresh();
            x.note(0);
            are(note(x, 0), 0, 0, 300);
            x.pass(99);
            x.tune(7, -20);
            x.pass(2);
            x.note(7);
            x.tune(7, 20);
            x.pass(1);
            are(note(x, 0), 0, 0, 300);
            are(note(x, 1), 7, 101, -10);
        });
        edge(section, "There is at most one for each balloon and hour;", () -> {
            RibbonBalloons x = fresh();
            x.note(3);
            x.note(3);
            is(x.count(13), 1);
            x.note(4);
            is(x.count(13), 2);
            x.pass(1);
            x.note(3);
            is(x.count(13), 3);
            x.note(4);
            x.note(3);
            is(x.count(13), 4);
            are(note(x, 2), 3, 1, 290);
        });
        edge(section, "at most 20 are kept;", () -> {
            RibbonBalloons x = fresh();
            for (int made = 1; made <= 20; made++) {
                x.note(made % 8);
                is(x.count(13), made);
                x.pass(1);
            }
            x.note(0);
            is(x.count(13), 20);
            is(x.noted(19, 1), 20);
            is(x.noted(20, 1), NONE);
        });
        edge(section, "if there would be more, the oldest one is gone.", () -> {
            RibbonBalloons x = fresh();
            for (int hour = 0; hour < 2; hour++) {
                for (int b = 0; b < 8; b++) {
                    x.note(b);
                }
                x.pass(1);
            }
            for (int b = 0; b < 4; b++) {
                x.note(b);
            }
            are(note(x, 0), 0, 0, 300);
            x.note(4);
            are(note(x, 0), 1, 0, 300);
            are(note(x, 18), 3, 2, 280);
            are(note(x, 19), 4, 2, 280);
            for (int b = 5; b < 8; b++) {
                x.note(b);
            }
            are(note(x, 0), 4, 0, 300);
            x.pass(1);
            for (int b = 0; b < 8; b++) {
                x.note(b);
            }
            are(note(x, 0), 4, 1, 290);
            are(note(x, 19), 7, 3, 270);
            // Of the others none is changed.
            RibbonBalloons y = fresh();
            for (int hour = 0; hour < 22; hour++) {
                y.note(hour % 8);
                y.pass(1);
            }
            for (int rank = 0; rank < 20; rank++) {
                int hour = rank + 2;
                are(note(y, rank), hour % 8, hour, 300 - 10 * hour);
            }
        });
        edge(section, "A note that is made anew in the same hour keeps its place.", () -> {
            RibbonBalloons x = fresh();
            for (int b = 0; b < 8; b++) {
                x.note(b);
            }
            x.drop(0);
            x.note(0);
            are(note(x, 0), 0, 0, 350);
            are(note(x, 1), 1, 0, 300);
            are(note(x, 7), 7, 0, 300);
            // With 20 notes one made anew lets none go, wherever it stands.
            for (int hour = 1; hour <= 12; hour++) {
                x.pass(1);
                x.note(hour % 8);
            }
            is(x.count(13), 20);
            x.drop(4);
            x.note(4);
            is(x.count(13), 20);
            are(note(x, 0), 0, 0, 350);
            are(note(x, 18), 3, 11, 190);
            are(note(x, 19), 4, 12, 230);
            // One made anew is no younger for it.
            RibbonBalloons y = fresh();
            for (int b = 0; b < 8; b++) {
                y.note(b);
            }
            y.note(0);
            for (int hour = 1; hour <= 13; hour++) {
                y.pass(1);
                y.note(0);
            }
            are(note(y, 0), 1, 0, 300);
        });
    }

    private static void hours() {
        String section = "Hours";
        edge(section, "In an hour, in this order: the hours so far become 1 more;", () -> {
            RibbonBalloons x = fresh();
            x.pass(1);
            is(x.count(0), 1);
            is(x.balloon(0, 8), 1);
            for (int b = 0; b < 8; b++) {
                x.leak(b, 0);
            }
            // An hour in which nothing else becomes other.
            x.pass(1);
            is(x.count(0), 2);
            is(x.balloon(0, 8), 2);
        });
        edge(section, "each balloon leaks: its gas becomes less by its leak, but not below 0;", () -> {
            RibbonBalloons x = fresh();
            x.vent(0, 51);
            x.vent(1, 52);
            x.vent(2, 50);
            x.vent(3, 60);
            for (int b = 0; b < 4; b++) {
                x.leak(b, 9);
            }
            x.leak(4, 0);
            x.pass(1);
            are(balloons(x, 0), 0, 0, 1, 0, 60, 59, 59, 59);
            is(x.count(4), 9 + 8 + 9 + 0 + 0 + 1 + 1 + 1);
            x.pass(1);
            are(balloons(x, 0), 0, 0, 0, 0, 60, 58, 58, 58);
            is(x.count(4), 29 + 1 + 3);
        });
        edge(section, "then, by the heights then,", () -> {
            RibbonBalloons x = fresh();
            drop(x, 0, 4);
            x.leak(0, 9);
            x.bear(0, 99);
            is(x.ribbon(0, 4), 1);
            is(x.pass(1), 0);
            is(x.ribbon(0, 3), 20);
            RibbonBalloons y = fresh();
            drop(y, 0, 4);
            y.leak(1, 2);
            y.bear(0, 100);
            is(y.ribbon(0, 4), 0);
            is(y.pass(1), 1);
        });
        edge(section, "of all ribbons whose pull is above what they bear", () -> {
            RibbonBalloons x = risen(300);
            x.bear(0, 390);
            is(x.ribbon(0, 3), 390);
            is(x.pass(1), 0);
            x.bear(0, 389);
            is(x.pass(1), 1);
            RibbonBalloons y = risen(300);
            y.bear(0, 391);
            is(y.pass(1), 0);
            // The least pull of all, and a ribbon that bears nothing.
            RibbonBalloons z = fresh();
            z.cut(1);
            z.tie(1, 99);
            drop(z, 1, 2);
            z.bear(1, 0);
            z.bear(0, 0);
            is(z.ribbon(1, 3), 1);
            is(z.ribbon(0, 3), 0);
            is(z.pass(1), 1);
            are(ribbons(z, 0), 1, 0, 1, 1, 1, 1, 1);
            is(z.pass(99), 0);
        });
        edge(section, "the one with the greatest pull,", () -> {
            RibbonBalloons x = fresh();
            drop(x, 0, 3);
            drop(x, 7, 4);
            x.vent(7, 4);
            x.bear(0, 0);
            x.bear(6, 59);
            is(x.ribbon(0, 3), 50);
            is(x.ribbon(6, 3), 60);
            is(x.pass(1), 1);
            is(x.ribbon(0, 0), 1);
            is(x.ribbon(6, 0), 0);
            is(x.pass(1), 1);
            is(x.ribbon(0, 0), 0);
            // The greatest pull of all, but borne: it does not count.
            RibbonBalloons y = fresh();
            drop(y, 0, 3);
            drop(y, 7, 4);
            y.bear(0, 49);
            y.bear(6, 100);
            is(y.pass(1), 1);
            is(y.ribbon(0, 0), 0);
            is(y.ribbon(6, 0), 1);
        });
        edge(section, "of several the lowest one, snaps:", () -> {
            RibbonBalloons x = fresh();
            drop(x, 1, 4);
            drop(x, 6, 4);
            for (int r = 0; r < 7; r++) {
                x.bear(r, 99);
            }
            are(ribbons(x, 3), 100, 100, 0, 0, 0, 100, 100);
            is(x.pass(1), 1);
            are(ribbons(x, 0), 0, 1, 1, 1, 1, 1, 1);
            is(x.pass(1), 1);
            are(ribbons(x, 0), 0, 0, 1, 1, 1, 1, 1);
            is(x.pass(1), 1);
            are(ribbons(x, 0), 0, 0, 1, 1, 1, 0, 1);
            is(x.pass(1), 1);
            are(ribbons(x, 0), 0, 0, 1, 1, 1, 0, 0);
            is(x.pass(1), 0);
        });
        edge(section, "it is not tied any more.", () -> {
            RibbonBalloons x = risen(300);
            x.bear(0, 389);
            x.pass(1);
            is(x.ribbon(0, 0), 0);
            is(x.ribbon(0, 1), 300);
            is(x.ribbon(0, 2), 389);
            is(x.ribbon(0, 3), 0);
            is(x.ribbon(0, 4), 0);
            is(x.balloon(1, 5), 690);
            is(x.balloon(1, 6), 690);
            is(x.count(7), 1);
            is(x.pass(1), 0);
        });
    }

    private static void gasThatCanNotBe() {
        String section = "What can not be done";
        edge(section, "Gas can not be filled in (1) if there would be more than 200 in the balloon,", () -> {
            RibbonBalloons x = kite(0);
            x.fill(1, 99);
            x.fill(1, 99);
            is(x.why(1, 0), 0);
            state(x, () -> x.fill(1, 3));
            is(x.fill(1, 1), 199);
            is(x.why(1, 0), 0);
            state(x, () -> x.fill(1, 2));
            is(x.fill(1, 1), 200);
            is(x.why(1, 0), 1);
            state(x, () -> x.fill(1, 1));
        });
        edge(section, "or (2) if it is not on the ground;", () -> {
            RibbonBalloons x = risen(0);
            is(x.why(1, 0), 0);
            is(x.fill(1, 1), 100);
            RibbonBalloons y = risen(1);
            is(y.why(1, 0), 2);
            state(y, () -> y.fill(1, 1));
        });
        edge(section, "the first reason that is so counts.", () -> {
            RibbonBalloons x = full();
            x.cut(0);
            is(x.balloon(1, 6), 999);
            is(x.why(1, 0), 1);
            is(work(x, "f11"), 0);
            is(x.stopped(1), 1);
            x.vent(1, 1);
            is(x.why(1, 0), 2);
            is(work(x, "f11"), 0);
            is(x.stopped(1), 2);
            is(work(x, "f12"), 0);
            is(x.stopped(1), 1);
        });
        edge(section, "Gas can not be let out (3) if there is less in it.", () -> {
            RibbonBalloons x = fresh();
            is(x.why(0, 1), 0);
            state(x, () -> x.vent(0, 61));
            is(x.vent(0, 59), 0);
            is(x.why(0, 1), 0);
            state(x, () -> x.vent(0, 2));
            is(x.vent(0, 1), 0);
            is(x.why(0, 1), 3);
            state(x, () -> x.vent(0, 1));
        });
    }

    private static void bagsAndRibbonsThatCanNotBe() {
        String section = "What can not be done";
        edge(section, "A bag can not be dropped (4) if there is none;", () -> {
            RibbonBalloons x = fresh();
            drop(x, 0, 3);
            is(x.why(0, 2), 0);
            x.drop(0);
            is(x.why(0, 2), 4);
            state(x, () -> x.drop(0));
        });
        edge(section, "none can be put in (5) if there are 10,", () -> {
            RibbonBalloons x = kite(1);
            put(x, 1, 5);
            is(x.why(1, 3), 0);
            is(x.put(1), 10);
            is(x.why(1, 3), 5);
            state(x, () -> x.put(1));
            // 10 bags, and not on the ground.
            x.fill(1, 99);
            is(x.balloon(1, 6), 1);
            is(x.why(1, 3), 5);
            x.drop(1);
            is(x.why(1, 3), 6);
        });
        edge(section, "or (6) if the balloon is not on the ground.", () -> {
            RibbonBalloons x = risen(0);
            is(x.why(1, 3), 0);
            is(x.put(1), 5);
            RibbonBalloons y = risen(1);
            is(y.why(1, 3), 6);
            state(y, () -> y.put(1));
        });
        edge(section, "A ribbon can not be tied (7) if it is tied,", () -> {
            RibbonBalloons x = fresh();
            is(x.why(0, 4), 7);
            state(x, () -> x.tie(0, 100));
            state(x, () -> x.tie(0, 0));
            // Tied, and the heights differ by more than 100.
            RibbonBalloons y = risen(300);
            is(y.balloon(1, 6), 300);
            is(y.why(0, 4), 7);
            y.cut(0);
            is(y.why(0, 4), 8);
        });
        edge(section, "or (8) if the heights of its two balloons differ by more than the length;", () -> {
            RibbonBalloons x = risen(101);
            x.vent(2, 60);
            is(x.why(1, 4), 8);
            state(x, () -> x.tie(1, 100));
            is(x.tie(1, 101), 8);
            RibbonBalloons y = risen(100);
            y.vent(2, 60);
            is(y.why(1, 4), 0);
            state(y, () -> y.tie(1, 99));
            is(y.tie(1, 100), 8);
            // The same with the balloon r below.
            RibbonBalloons z = fresh();
            z.cut(0);
            z.vent(0, 10);
            is(z.why(0, 4), 0);
            state(z, () -> z.tie(0, 99));
            z.vent(0, 1);
            is(z.why(0, 4), 8);
            state(z, () -> z.tie(0, 109));
            is(z.tie(0, 110), 8);
            RibbonBalloons like = fresh();
            like.cut(0);
            is(like.tie(0, 0), 8);
        });
        edge(section, "it can not be cut (9) if it is not tied.", () -> {
            RibbonBalloons x = fresh();
            is(x.why(6, 5), 0);
            x.cut(6);
            is(x.why(6, 5), 9);
            state(x, () -> x.cut(6));
            x.tie(6, 0);
            is(x.why(6, 5), 0);
            is(x.cut(6), 0);
        });
    }

    private static void inputText() {
        String section = "Input text";
        edge(section, "The buffer has at most 60 characters.", () -> {
            RibbonBalloons x = fresh();
            for (int length = 1; length <= 60; length++) {
                is(x.append('h'), length);
            }
            state(x, () -> x.append('h'));
            is(x.clearBuffer(), 60);
            is(x.append('h'), 1);
        });
        edge(section, "Work as a text is one or more parts with \";\" between them:", () -> {
            complete("n0", "n0;n1", "n0;n1;n2");
            open("", "n0;", "n0;n1;");
            wrong(";", "n0;;", "n0n", "n0,", "n0:", "n0;n1d");
        });
        edge(section, "\"f\" or \"v\", a balloon, 0 to 7, and 1 to 99 (so much gas is filled in, or let out);", () -> {
            complete("f01", "f799", "f09", "f010", "v01", "v799", "v09", "v010");
            open("f", "f0", "f7", "v", "v0", "v7");
            wrong("f8", "f9", "f/", "f:", "ff", "f;", "f0;", "f0/", "f0:", "f0f", "f0100", "f0999", "f01f");
            wrong("v8", "v9", "v/", "v:", "vv", "v;", "v0;", "v0/", "v0:", "v0v", "v0100", "v0999", "v01v");
            wrong("F", "V", "e", "g", "u", "w");
        });
        edge(section, "\"d\" or \"p\" and a balloon (a bag is dropped, or put in);", () -> {
            complete("d0", "d7", "p0", "p7");
            open("d", "p");
            wrong("d8", "d/", "d:", "d;", "dd", "d00", "d71", "p8", "p/", "p:", "p;", "pp", "p00", "p71");
            wrong("D", "P", "o", "q");
        });
        edge(section, "\"c\" and a ribbon, 0 to 6 (it is cut);", () -> {
            complete("c0", "c6");
            open("c");
            wrong("c7", "c8", "c/", "c:", "c;", "cc", "c00", "c61", "C", "b");
        });
        edge(section, "\"n\" and a balloon (a note is made);", () -> {
            complete("n0", "n7");
            open("n");
            wrong("n8", "n/", "n:", "n;", "nn", "n00", "n71", "N", "m");
        });
        edge(section, "or \"h\" and 1 to 99 (so many hours pass).", () -> {
            complete("h1", "h9", "h10", "h99");
            open("h");
            wrong("h0", "h/", "h:", "h;", "hh", "h1/", "h1:", "h100", "h990", "h999", "H", "i", "t", "l");
        });
        edge(section, "Numbers have no leading zeros.", () -> {
            wrong("h0", "h1;h0", "f00", "v00", "f70", "v70");
            is(firstError("h01"), 1);
            is(firstError("f001"), 2);
            is(firstError("v710;v701"), 7);
            complete("h10", "f010", "v070");
        });
        edge(section, "The buffer is read from left to right;", () -> {
            is(firstError("xx"), 0);
            is(firstError("h0h0"), 1);
            is(firstError("n0;c7;d8"), 4);
        });
        edge(section, "a character is a syntax error if no work as a text, of any length, begins with the characters before it"
            + " and this character.", () -> {
                is(firstError(""), 0);
                is(firstError("h"), 1);
                is(firstError("x"), 0);
                StringBuilder text = new StringBuilder("f010");
                while (text.length() < 58) {
                    text.append(";d0");
                }
                // Of 60 characters, or of 59: what begins there could only end behind the 60th.
                is(firstError(text + ";f"), 60);
                is(firstError(text + ";c"), 60);
                is(firstError(text + ";x"), 59);
                is(firstError(text + ";"), 59);
                is(firstError(text + "0"), 58);
            });
    }

    private static void undo() {
        String section = "Undo";
        edge(section, "Each method that is marked \"undoable\"", () -> {
            RibbonBalloons x = fresh();
            x.append('h');
            x.clearBuffer();
            x.firstError();
            x.keep();
            looks(x);
            is(x.count(14), 0);
            x.leak(0, 2);
            x.undo();
            is(x.count(14), 0);
            state(x, () -> x.undo());
        });
        edge(section, "and does not throw an exception saves the state from before it", () -> {
            RibbonBalloons x = fresh();
            Checks.type(x, "h0");
            state(x, () -> x.fill(0, 1));
            state(x, () -> x.vent(0, 61));
            state(x, () -> x.put(0));
            state(x, () -> x.tie(0, 100));
            argument(x, () -> x.leak(0, 10));
            argument(x, () -> x.bear(0, 501));
            argument(x, () -> x.tune(0, 21));
            index(x, () -> x.drop(8));
            index(x, () -> x.cut(7));
            index(x, () -> x.note(8));
            argument(x, () -> x.pass(0));
            argument(x, () -> x.work());
            state(x, () -> x.goBack());
            is(x.count(14), 0);
        });
        edge(section, "(also if it changes nothing):", () -> {
            undoable(fresh(), 1, x -> x.leak(0, 1));
            undoable(fresh(), 1, x -> x.bear(0, 150));
            undoable(fresh(), 1, x -> x.tune(0, 0));
            undoable(noted(), 2, x -> x.note(0));
            undoable(kept(), 1, x -> x.goBack());
            undoable(stoppedOnce(), 2, x -> work(x, "p0"));
        });
    }

    /** A call that leaves all that is told as it was, but is saved. */
    private static void undoable(RibbonBalloons x, int saved, Consumer<RibbonBalloons> call) {
        long before = x.digest();
        call.accept(x);
        is(x.count(14), saved);
        is(x.undo(), saved - 1);
        is(x.digest(), before);
    }

    private static RibbonBalloons noted() {
        RibbonBalloons x = fresh();
        x.note(0);
        return x;
    }

    private static RibbonBalloons kept() {
        RibbonBalloons x = fresh();
        x.keep();
        return x;
    }

    private static RibbonBalloons stoppedOnce() {
        RibbonBalloons x = fresh();
        work(x, "p0");
        return x;
    }

    private static void whatUndoRestores() {
        String section = "Undo";
        edge(section, "all, also notes, what is counted so far and the latest stop,", () -> {
            RibbonBalloons x = kite(0);
            work(x, "f140;v110;d1;n1;h1;p0;d2;d3;d4;d5");
            x.bear(6, 0);
            work(x, "n2;h1;c6;c6");
            is(x.stopped(0), 3);
            is(x.stopped(1), 9);
            is(x.count(13), 2);
            x.undo();
            is(x.count(0), 1);
            is(x.count(13), 1);
            is(x.stopped(0), NONE);
            is(x.stopped(1), NONE);
            is(x.ribbon(6, 0), 1);
            is(x.ribbon(6, 2), 0);
            x.undo();
            is(x.ribbon(6, 2), 150);
            x.undo();
            is(x.count(0), 0);
            is(x.count(3), 0);
            is(x.count(4), 0);
            is(x.count(5), 120);
            is(x.count(12), 0);
            is(x.count(13), 0);
            is(x.balloon(1, 0), 0);
            is(x.balloon(0, 1), 4);
            RibbonBalloons y = risen(300);
            y.bear(0, 0);
            y.pass(1);
            is(y.count(7), 1);
            y.undo();
            is(y.count(7), 0);
            is(y.ribbon(0, 0), 1);
            is(y.balloon(1, 6), 300);
        });
        edge(section, "but the buffer, the snapshot and the saved states.", () -> {
            RibbonBalloons x = fresh();
            x.drop(0);
            x.drop(1);
            x.drop(2);
            type(x, "h1");
            x.keep();
            is(x.undo(), 2);
            is(x.firstError(), 2);
            is(x.undo(), 1);
            // The saved states do not come back, and the snapshot is the one that was taken.
            is(x.count(14), 1);
            is(x.goBack(), 0);
            are(balloons(x, 1), 3, 3, 3, 4, 4, 4, 4, 4);
            is(x.clearBuffer(), 2);
            x.undo();
            x.undo();
            are(balloons(x, 1), 4, 4, 4, 4, 4, 4, 4, 4);
            is(x.clearBuffer(), 0);
            is(x.goBack(), 0);
            are(balloons(x, 1), 3, 3, 3, 4, 4, 4, 4, 4);
        });
        edge(section, "At most 6 states are saved;", () -> {
            RibbonBalloons x = fresh();
            for (int call = 1; call <= 9; call++) {
                x.leak(0, call);
                is(x.count(14), Math.min(call, 6));
            }
            x.undo();
            x.leak(0, 0);
            is(x.count(14), 6);
        });
        edge(section, "the oldest one is dropped first.", () -> {
            RibbonBalloons x = fresh();
            for (int call = 1; call <= 9; call++) {
                x.leak(0, call);
            }
            for (int left = 5; left >= 0; left--) {
                is(x.undo(), left);
                is(x.balloon(0, 2), 3 + left);
            }
            state(x, () -> x.undo());
            is(x.balloon(0, 2), 3);
        });
    }

    private static void looks(RibbonBalloons x) {
        for (int what = 0; what <= 14; what++) {
            x.count(what);
        }
        balloons(x, 5);
        balloons(x, 9);
        ribbons(x, 3);
        ribbons(x, 4);
        note(x, 0);
        for (int deed = 0; deed <= 5; deed++) {
            x.why(0, deed);
        }
        x.stopped(0);
        x.stopped(1);
        whatWouldBe(x);
    }

    private static void whatWouldBe(RibbonBalloons x) {
        for (int b = 0; b < 8; b++) {
            x.ifDropped(b, 0);
            x.ifDropped(b, 1);
            x.ifDropped(b, 2);
            x.landsIn(b);
        }
        x.snapsIn();
        x.bestBag();
        x.meanHeight();
        x.lostShare();
        x.digest();
    }

    private static void constants() {
        String section = "Exceptions";
        edge(section, "The constants: `NONE = -1000`: There is nothing to return.", () -> {
            is(RibbonBalloons.NONE, -1000);
            RibbonBalloons x = cutUp();
            is(x.noted(0, 0), -1000);
            is(x.stopped(0), -1000);
            is(x.stopped(1), -1000);
            is(x.snapsIn(), -1000);
            x.leak(0, 0);
            is(x.landsIn(0), -1000);
            for (int b = 0; b < 8; b++) {
                drop(x, b, 4);
            }
            is(x.ifDropped(0, 0), -1000);
            is(x.bestBag(), -1000);
        });
        plain(section, "Ahead of the calls `fill`, `vent`, `drop`, `put`, `leak` the interface says: ---- gas, bags.",
            "Ahead of the calls `tie`, `cut`, `bear` the interface says: ---- ribbons.",
            "Ahead of the calls `tune`, `note`, `pass` the interface says: ---- altimeters, hours.",
            "Ahead of the calls `append`, `clearBuffer`, `firstError`, `work`, `keep`, `goBack`, `undo` the interface says:"
                + " ---- texts, the snapshot.");
        edge(section, "Ahead of the calls `balloon`, `ribbon`, `noted`, `count`, `why`, `stopped` the interface says:"
            + " ---- looks; nothing is changed.", () -> {
                RibbonBalloons x = rich();
                looks(x);
                same(x, rich());
            });
        edge(section, "Ahead of the calls `ifDropped`, `landsIn`, `snapsIn`, `bestBag`, `meanHeight`, `lostShare`, `digest`"
            + " the interface says: ---- what would be; nothing is changed.", () -> {
                RibbonBalloons x = rich();
                whatWouldBe(x);
                same(x, rich());
            });
    }

    /**
     * Of each kind something: 6 saved states, a snapshot, notes, a stop, text in the buffer that is no
     * work; and each deed can not be done somewhere.
     */
    private static RibbonBalloons rich() {
        RibbonBalloons x = full();
        put(x, 0, 6);
        x.note(3);
        x.tune(4, -7);
        x.leak(1, 0);
        x.pass(2);
        x.keep();
        x.note(3);
        work(x, "n2;d7;p2");
        x.bear(4, 3);
        x.vent(7, 9);
        x.drop(6);
        type(x, "h1;x");
        return x;
    }

    /** The whole state tells the same, also the saved states, one by one, and the snapshot. */
    private static void same(RibbonBalloons x, RibbonBalloons y) {
        is(x.digest(), y.digest());
        is(x.firstError(), y.firstError());
        int saved = y.count(14);
        for (int left = saved - 1; left >= 0; left--) {
            is(x.undo(), left);
            y.undo();
            is(x.digest(), y.digest());
        }
        is(goneBack(x), goneBack(y));
        is(x.digest(), y.digest());
    }

    private static int goneBack(RibbonBalloons x) {
        try {
            return x.goBack();
        } catch (IllegalStateException none) {
            return NONE;
        }
    }

    @SafeVarargs
    private static void refused(Supplier<RibbonBalloons> made, ToLongFunction<RibbonBalloons>... calls) {
        for (ToLongFunction<RibbonBalloons> call : calls) {
            RibbonBalloons x = made.get();
            int threw = 0;
            try {
                call.applyAsLong(x);
            } catch (RuntimeException thrown) {
                threw = 1;
            }
            is(threw, 1);
            same(x, made.get());
        }
    }

    /** A full buffer; and neither a snapshot nor a saved state. */
    private static RibbonBalloons typedFull() {
        RibbonBalloons x = fresh();
        for (int length = 1; length <= 60; length++) {
            x.append('x');
        }
        return x;
    }

    private static void exceptionsChangeNothing() {
        String section = "Exceptions";
        String sentence = "A call that throws an exception changes nothing.";
        edge(section, sentence, () -> refused(TermEdgeTests::rich,
            x -> x.fill(8, 1), x -> x.fill(1, 100), x -> x.fill(1, 1), x -> x.fill(2, 1),
            x -> x.vent(-1, 1), x -> x.vent(0, 0), x -> x.vent(0, 1), x -> x.vent(2, 99),
            x -> x.drop(8), x -> x.drop(1),
            x -> x.put(-1), x -> x.put(0), x -> x.put(2),
            x -> x.leak(8, 1), x -> x.leak(0, 10)));
        edge(section, sentence, () -> refused(TermEdgeTests::rich,
            x -> x.tie(7, 1), x -> x.tie(0, 301), x -> x.tie(3, 100), x -> x.tie(0, 300),
            x -> x.cut(7), x -> x.cut(0),
            x -> x.bear(-1, 1), x -> x.bear(0, 501),
            x -> x.tune(8, 1), x -> x.tune(0, 21),
            x -> x.note(8), x -> x.pass(0), x -> x.pass(100)));
        edge(section, sentence, () -> refused(TermEdgeTests::rich, x -> x.append(32), x -> x.append(127), x -> x.work()));
        edge(section, sentence, () -> refused(TermEdgeTests::typedFull,
            x -> x.append('x'), x -> x.append(32), x -> x.work(), x -> x.goBack(), x -> x.undo()));
        edge(section, sentence, () -> refused(TermEdgeTests::rich,
            x -> x.balloon(8, 0), x -> x.balloon(0, 12), x -> x.ribbon(7, 0), x -> x.ribbon(0, 5),
            x -> x.noted(-1, 0), x -> x.noted(0, 3), x -> x.count(15),
            x -> x.why(8, 0), x -> x.why(7, 4), x -> x.why(0, 6), x -> x.stopped(2),
            x -> x.ifDropped(8, 0), x -> x.ifDropped(0, 3), x -> x.landsIn(8)));
    }

    private static void exceptionsNamedFirst() {
        String section = "Exceptions";
        String sentence = "If several exceptions apply, the one that is named first in the throws clause is thrown.";
        edge(section, sentence, () -> {
            RibbonBalloons x = rich();
            index(x, () -> x.fill(8, 0));
            argument(x, () -> x.fill(1, 100));
            argument(x, () -> x.fill(2, 0));
            index(x, () -> x.vent(-1, 100));
            argument(x, () -> x.vent(0, 100));
            index(x, () -> x.leak(8, 10));
            index(x, () -> x.tie(7, 301));
            argument(x, () -> x.tie(3, 301));
            argument(x, () -> x.tie(0, -1));
            index(x, () -> x.bear(7, -1));
            index(x, () -> x.tune(8, 21));
        });
        edge(section, sentence, () -> {
            RibbonBalloons x = typedFull();
            argument(x, () -> x.append(32));
            argument(x, () -> x.append(127));
            state(x, () -> x.append(126));
        });
        edge(section, sentence, () -> {
            RibbonBalloons x = rich();
            index(x, () -> x.balloon(8, 12));
            index(x, () -> x.ribbon(7, 5));
            index(x, () -> x.noted(-1, 3));
            argument(x, () -> x.noted(99, 3));
            index(x, () -> x.why(8, 6));
            argument(x, () -> x.why(7, 6));
            index(x, () -> x.ifDropped(8, 3));
            argument(x, () -> x.ifDropped(1, 3));
        });
    }

    public static void main(String[] args) {
        whatItIs();
        terms();
        balloonsAtFirst();
        liftsAndWantedHeights();
        ribbonsAtFirst();
        heights();
        pulls();
        altimeters();
        notes();
        hours();
        gasThatCanNotBe();
        bagsAndRibbonsThatCanNotBe();
        inputText();
        undo();
        whatUndoRestores();
        exceptionsChangeNothing();
        exceptionsNamedFirst();
        constants();
        end("TermEdgeTests", "What it is", "Terms", "Balloons", "Hours", "What can not be done", "Input text", "Undo",
            "Exceptions");
    }
}
