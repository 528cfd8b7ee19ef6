/** The boundary cases that promises 13 to 19 name, sentence by sentence. */
public final class TextEdgeTests extends Edges {
    private static final int NONE = RibbonBalloons.NONE;
    private static final String ONE_HOUR_19_TIMES = "h1;h1;h1;h1;h1;h1;h1;h1;h1;h1;h1;h1;h1;h1;h1;h1;h1;h1;h1";

    private static void append() {
        String section = "Promise 13: append";
        plain(section, "Appends a character to the buffer.");
        edge(section, "- `code`: the character code, 33 to 126", () -> {
            RibbonBalloons x = fresh();
            for (int code = 33; code <= 126; code++) {
                is(x.append(code), 1);
                x.clearBuffer();
            }
        });
        edge(section, "Returns the new length of the buffer.", () -> {
            RibbonBalloons x = fresh();
            for (int length = 1; length <= 60; length++) {
                is(x.append('h'), length);
            }
            x.clearBuffer();
            is(x.append('h'), 1);
            x.append('1');
            x.work();
            is(x.append('h'), 1);
        });
        edge(section, "Throws `IllegalArgumentException` if code is not 33 to 126", () -> {
            RibbonBalloons x = fresh();
            outside(x, 33, 126, code -> x.append(code));
            argument(x, () -> x.append(0));
            // The code of "h", if it is cut to 8 or 16 bits.
            argument(x, () -> x.append('h' + 256));
            argument(x, () -> x.append('h' + 65536));
            is(x.clearBuffer(), 0);
        });
        edge(section, "Throws `IllegalStateException` if the buffer has 60 characters", () -> {
            RibbonBalloons x = fresh();
            Checks.type(x, ONE_HOUR_19_TIMES);
            is(x.append(';'), 57);
            is(x.append('h'), 58);
            is(x.append('1'), 59);
            is(x.append('0'), 60);
            state(x, () -> x.append('0'));
            state(x, () -> x.append(33));
            state(x, () -> x.append(126));
            is(x.work(), 20);
            is(x.append('0'), 1);
        });
    }

    private static void clearBuffer() {
        String section = "Promise 14: clearBuffer";
        edge(section, "Clears the buffer.", () -> {
            RibbonBalloons x = fresh();
            Checks.type(x, "h9");
            x.clearBuffer();
            is(x.firstError(), 0);
            argument(x, () -> x.work());
            Checks.type(x, "n");
            is(x.firstError(), 1);
            x.clearBuffer();
            x.clearBuffer();
            is(x.digest(), fresh().digest());
        });
        edge(section, "Returns the length that it had.", () -> {
            RibbonBalloons x = fresh();
            is(x.clearBuffer(), 0);
            x.append('h');
            is(x.clearBuffer(), 1);
            is(x.clearBuffer(), 0);
            for (int length = 1; length <= 60; length++) {
                x.append('~');
            }
            is(x.clearBuffer(), 60);
            is(x.clearBuffer(), 0);
        });
    }

    private static void firstErrors() {
        String section = "Promise 15: firstError";
        plain(section, "Finds the first syntax error of the buffer.");
        edge(section, "Returns the index of the first character that is a syntax error;", () -> {
            is(firstError("!"), 0);
            is(firstError("~h1"), 0);
            is(firstError("hx"), 1);
            is(firstError(ONE_HOUR_19_TIMES + ";hx"), 58);
            is(firstError(ONE_HOUR_19_TIMES + ";h1x"), 59);
            is(firstError(ONE_HOUR_19_TIMES + ";xxx"), 57);
        });
        edge(section, "the length of the buffer if there is none.", () -> {
            is(firstError(""), 0);
            is(firstError("h"), 1);
            is(firstError("h1"), 2);
            is(firstError("h1;"), 3);
            is(firstError(ONE_HOUR_19_TIMES + ";h1"), 59);
            is(firstError(ONE_HOUR_19_TIMES + ";h1;"), 60);
            is(firstError(ONE_HOUR_19_TIMES + ";h10"), 60);
        });
    }

    private static void work() {
        String section = "Promise 16: work";
        edge(section, "Does the work in the buffer as fill(), vent(), drop(), put(), cut(), note() and pass() do,", () -> {
            RibbonBalloons x = kite(0);
            RibbonBalloons y = kite(0);
            is(work(x, "f199;v199;d1;p7;h1"), 3);
            y.fill(1, 99);
            y.vent(1, 99);
            y.drop(1);
            are(balloons(x, 9), balloons(y, 9));
            for (int what = 0; what <= 13; what++) {
                is(x.count(what), y.count(what));
            }
            is(work(x, "f11;f199;f199;p1;p1;p0;c6;n7;n1;n7;h99"), 11);
            y.fill(1, 1);
            y.fill(1, 99);
            y.fill(1, 99);
            y.put(1);
            y.put(1);
            y.put(0);
            y.cut(6);
            y.note(7);
            y.note(1);
            y.note(7);
            y.pass(99);
            for (int what = 0; what <= 13; what++) {
                is(x.count(what), y.count(what));
            }
            are(balloons(x, 1), balloons(y, 1));
            are(note(x, 0), note(y, 0));
            are(note(x, 1), note(y, 1));
            is(x.noted(2, 0), NONE);
        });
        edge(section, "part by part, up to the first one that would throw an exception,", () -> {
            RibbonBalloons x = fresh();
            is(work(x, "f01;h1"), 0);
            is(x.count(0), 0);
            is(work(x, "d0;p0;d1"), 1);
            are(balloons(x, 1), 3, 4, 4, 4, 4, 4, 4, 4);
            is(work(x, "h1;c0;c0"), 2);
            is(x.count(0), 1);
            is(work(x, "v060;v01;n0"), 0);
            is(work(x, "v059;v01;n0"), 1);
            is(x.count(13), 0);
            // A part can be done only by one before it.
            is(work(x, "v130;v130;f15;p1"), 1);
            is(work(x, "v129;f15;p1"), 3);
        });
        edge(section, "and clears the buffer.", () -> {
            RibbonBalloons x = fresh();
            work(x, "h1");
            is(x.clearBuffer(), 0);
            work(x, "p0");
            is(x.clearBuffer(), 0);
            is(work(x, ONE_HOUR_19_TIMES + ";h10"), 20);
            is(x.clearBuffer(), 0);
            argument(x, () -> x.work());
        });
        edge(section, "Undoable, as one call, also if none is done.", () -> {
            RibbonBalloons x = fresh();
            RibbonBalloons y = fresh();
            is(work(x, "h1;n0;d0;h2"), 4);
            is(x.count(14), 1);
            is(x.undo(), 0);
            is(x.digest(), y.digest());
            is(work(x, "p0;h1"), 0);
            is(x.count(14), 1);
            is(x.undo(), 0);
            is(x.digest(), y.digest());
            x.drop(0);
            is(work(x, "d1;d1;d1;d1;d1;d1"), 4);
            is(x.count(14), 2);
            is(x.undo(), 1);
            is(x.balloon(1, 1), 4);
            is(x.balloon(0, 1), 3);
        });
    }

    private static void stops() {
        String section = "Promise 16: work";
        edge(section, "The latest stop is that of this call then,", () -> {
            RibbonBalloons x = fresh();
            work(x, "p0;h1");
            is(x.stopped(0), 0);
            is(x.stopped(1), 6);
            work(x, "h1;c6;c6;h1");
            is(x.stopped(0), 2);
            is(x.stopped(1), 9);
            work(x, ONE_HOUR_19_TIMES + ";f01");
            is(x.stopped(0), 19);
            is(x.stopped(1), 2);
        });
        edge(section, "or none, if all are done.", () -> {
            RibbonBalloons x = fresh();
            work(x, "h1");
            is(x.stopped(0), NONE);
            is(x.stopped(1), NONE);
            work(x, "p0");
            work(x, "n0");
            is(x.stopped(0), NONE);
            is(x.stopped(1), NONE);
            // A call that throws leaves the stop.
            work(x, "p0");
            type(x, "h");
            argument(x, () -> x.work());
            is(x.stopped(0), 0);
            is(x.stopped(1), 6);
        });
        edge(section, "Returns how many parts are done.", () -> {
            is(work(fresh(), "p0"), 0);
            is(work(fresh(), "n0"), 1);
            is(work(fresh(), "n0;p0"), 1);
            is(work(fresh(), ONE_HOUR_19_TIMES + ";h1"), 20);
            is(work(fresh(), ONE_HOUR_19_TIMES + ";h10"), 20);
            is(work(fresh(), ONE_HOUR_19_TIMES + ";p0"), 19);
        });
        edge(section, "Throws `IllegalArgumentException` if the buffer is not complete work as a text", () -> {
            open("", "h", "h1;", "f", "f7", "v0", "d", "p", "c", "n", "n0;h", ONE_HOUR_19_TIMES + ";h1;");
            wrong(";", "h0", "h100", "f8", "c7", "d8", "n0;;", "n0n", ONE_HOUR_19_TIMES + ";h1x", "x");
            // Wrong in the middle, and good again behind it.
            RibbonBalloons x = fresh();
            Checks.type(x, "h1;h0;h1");
            argument(x, () -> x.work());
            is(x.clearBuffer(), 8);
        });
    }

    private static void keep() {
        String section = "Promise 17: keep";
        edge(section, "Takes a snapshot of the state (of all that undo() would restore),", () -> {
            RibbonBalloons x = full();
            x.cut(0);
            x.note(1);
            x.tune(1, 20);
            work(x, "c0");
            type(x, "h1");
            x.keep();
            x.undo();
            x.undo();
            x.undo();
            x.undo();
            is(x.count(14), 2);
            type(x, "n0;n1");
            is(x.goBack(), 0);
            // Neither the buffer nor the saved states are of it.
            is(x.clearBuffer(), 5);
            is(x.count(14), 3);
            is(x.ribbon(0, 0), 0);
            are(note(x, 0), 1, 0, 999);
            is(x.balloon(1, 7), 20);
            is(x.stopped(0), 0);
            is(x.stopped(1), 9);
            is(x.count(3), 200);
            is(x.count(5), 120);
            is(x.count(12), 4);
        });
        edge(section, "in place of the one that was.", () -> {
            RibbonBalloons x = fresh();
            x.keep();
            x.drop(0);
            x.keep();
            x.drop(0);
            x.goBack();
            is(x.balloon(0, 1), 3);
            x.undo();
            x.undo();
            x.undo();
            is(x.balloon(0, 1), 4);
            x.goBack();
            is(x.balloon(0, 1), 3);
            // Of a snapshot a snapshot.
            x.keep();
            is(x.goBack(), 0);
            is(x.balloon(0, 1), 3);
        });
        edge(section, "Returns the hours so far.", () -> {
            RibbonBalloons x = fresh();
            is(x.keep(), 0);
            x.pass(99);
            is(x.keep(), 99);
            is(x.keep(), 99);
            x.undo();
            is(x.keep(), 0);
        });
    }

    private static void goBack() {
        String section = "Promise 18: goBack";
        edge(section, "Goes back to the snapshot, which stays.", () -> {
            RibbonBalloons x = fresh();
            x.keep();
            x.drop(0);
            x.goBack();
            is(x.balloon(0, 1), 4);
            // What is done behind it does not touch the snapshot.
            drop(x, 0, 4);
            x.note(0);
            x.pass(3);
            x.cut(0);
            is(x.goBack(), 0);
            is(x.balloon(0, 1), 4);
            is(x.count(13), 0);
            is(x.count(6), 7);
            is(x.goBack(), 0);
            is(x.balloon(0, 1), 4);
        });
        edge(section, "Undoable.", () -> {
            RibbonBalloons x = fresh();
            x.keep();
            undoable(x, () -> x.goBack());
            x.pass(5);
            x.note(3);
            undoable(x, () -> x.goBack());
            x.goBack();
            x.goBack();
            is(x.count(0), 0);
            x.undo();
            is(x.count(0), 0);
            x.undo();
            is(x.count(0), 5);
        });
        edge(section, "Returns the hours so far then.", () -> {
            RibbonBalloons x = fresh();
            x.keep();
            is(x.goBack(), 0);
            x.pass(99);
            is(x.goBack(), 0);
            x.undo();
            x.keep();
            x.undo();
            is(x.count(0), 0);
            is(x.goBack(), 99);
        });
        edge(section, "Throws `IllegalStateException` if there is no snapshot", () -> {
            RibbonBalloons x = fresh();
            state(x, () -> x.goBack());
            x.drop(0);
            state(x, () -> x.goBack());
            x.keep();
            is(x.goBack(), 0);
            x.undo();
            x.undo();
            is(x.goBack(), 0);
        });
    }

    private static void undo() {
        String section = "Promise 19: undo";
        edge(section, "Restores the latest saved state, and drops it.", () -> {
            RibbonBalloons x = fresh();
            long[] before = new long[6];
            for (int call = 0; call < 6; call++) {
                before[call] = x.digest();
                x.leak(0, call + 2);
            }
            for (int call = 5; call >= 0; call--) {
                x.undo();
                is(x.digest(), before[call]);
            }
            x.drop(0);
            is(x.undo(), 0);
            is(x.digest(), before[0]);
        });
        edge(section, "Returns how many saved states are left.", () -> {
            RibbonBalloons x = fresh();
            x.drop(0);
            is(x.undo(), 0);
            for (int call = 0; call < 7; call++) {
                x.leak(0, call);
            }
            for (int left = 5; left >= 0; left--) {
                is(x.undo(), left);
                is(x.count(14), left);
            }
        });
        edge(section, "Throws `IllegalStateException` if there is none", () -> {
            RibbonBalloons x = fresh();
            state(x, () -> x.undo());
            x.drop(0);
            x.undo();
            state(x, () -> x.undo());
            x.keep();
            state(x, () -> x.undo());
            x.goBack();
            is(x.undo(), 0);
            state(x, () -> x.undo());
        });
    }

    public static void main(String[] args) {
        append();
        clearBuffer();
        firstErrors();
        work();
        stops();
        keep();
        goBack();
        undo();
        end("TextEdgeTests", "Promise 13: append", "Promise 14: clearBuffer", "Promise 15: firstError", "Promise 16: work",
            "Promise 17: keep", "Promise 18: goBack", "Promise 19: undo");
    }
}
