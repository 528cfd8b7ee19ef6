/** Promises 13 to 19: the buffer, work as a text, the snapshot and undo. */
public final class TextTests {
    private TextTests() {
    }

    private static void promise13Append() {
        RibbonBalloons x = new RibbonBalloons();
        Checks.due("append 33", x.append(33), 1);
        Checks.due("append 126", x.append(126), 2);
        Checks.unchanged("append that throws", x, () -> {
            Checks.argument("append(32)", () -> x.append(32));
            Checks.argument("append(127)", () -> x.append(127));
            Checks.argument("append(-1)", () -> x.append(-1));
        });
        for (int length = 3; length <= 60; length++) {
            Checks.due("append " + length, x.append('a'), length);
        }
        Checks.state("append the 61st", () -> x.append('a'));
        Checks.argument("a wrong 61st", () -> x.append(32));
        Checks.due("not undoable", x.count(14), 0);
        Checks.due("60 are held", x.clearBuffer(), 60);
    }

    private static void promise14ClearBuffer() {
        RibbonBalloons x = new RibbonBalloons();
        Checks.type(x, "h1");
        Checks.due("clear 2", x.clearBuffer(), 2);
        Checks.due("clear 0", x.clearBuffer(), 0);
        Checks.due("append behind it", x.append('h'), 1);
        Checks.due("not undoable", x.count(14), 0);
    }

    private static void errorAt(String text, int place) {
        RibbonBalloons x = new RibbonBalloons();
        Checks.type(x, text);
        Checks.due("firstError of " + text, x.firstError(), place);
        Checks.due("the same again", x.firstError(), place);
    }

    private static void promise15FirstError() {
        String[] right = {"", "f", "f0", "f71", "f799", "f799;", "v", "v0", "v01", "v010;v", "d", "d7", "d0;d",
            "p0", "p7;", "c0", "c6;", "n0", "n7;n", "h", "h1", "h99", "h10;h9;h"};
        for (String text : right) {
            errorAt(text, text.length());
        }
        errorAt("a", 0);
        errorAt(";", 0);
        errorAt("0", 0);
        errorAt("F01", 0);
        errorAt("f8", 1);
        errorAt("f/1", 1);
        errorAt("ff", 1);
        errorAt("f00", 2);
        errorAt("f0;", 2);
        errorAt("v70", 2);
        errorAt("f0100", 4);
        errorAt("f01x", 3);
        errorAt("f01:", 3);
        errorAt("d8", 1);
        errorAt("d01", 2);
        errorAt("p0p", 2);
        errorAt("c7", 1);
        errorAt("c66", 2);
        errorAt("n8", 1);
        errorAt("n;", 1);
        errorAt("h0", 1);
        errorAt("h100", 3);
        errorAt("h;", 1);
        errorAt("h:", 1);
        errorAt("h/", 1);
        errorAt("f0:", 2);
        errorAt("h1/", 2);
        errorAt("h11:", 3);
        errorAt("n/", 1);
        errorAt("c/", 1);
        errorAt("h1;;", 3);
        errorAt("h1;d9;x", 4);
        errorAt("t0", 0);
        errorAt("b0", 0);
    }

    private static void promise15AFullBuffer() {
        StringBuilder text = new StringBuilder("h10");
        while (text.length() < 58) {
            text.append(";d1");
        }
        // The text could go on behind the 60 characters that the buffer holds.
        errorAt(text.append(";f").substring(0, 59), 59);
        RibbonBalloons x = new RibbonBalloons();
        Checks.type(x, "h1;h1;h1;h1;h1;h1;h1;h1;h1;h1;h1;h1;h1;h1;h1;h1;h1;h1;h1;h10");
        Checks.due("a full buffer is worked", x.work(), 20);
        Checks.due("its hours", x.count(0), 29);
    }

    private static void promise16Work() {
        RibbonBalloons x = new RibbonBalloons();
        Checks.type(x, "v060;f010;p0;d1;c6;n1;h12");
        Checks.due("all parts are done", x.work(), 7);
        Checks.due("v", x.count(5), 60);
        Checks.due("f", x.count(3), 10);
        Checks.due("p", x.balloon(0, 1), 5);
        Checks.due("d", x.balloon(1, 1), 3);
        Checks.due("dropped", x.count(12), 1);
        Checks.due("c", x.ribbon(6, 0), 0);
        Checks.due("n", x.noted(0, 2), 100);
        Checks.due("h", x.count(0), 12);
        Checks.due("no stop", x.stopped(0), RibbonBalloons.NONE);
        Checks.due("the buffer is clear", x.clearBuffer(), 0);
        Checks.due("undoable, as one", x.count(14), 1);
        Checks.type(x, "h");
        x.undo();
        Checks.due("undone", x.count(0), 0);
        Checks.due("the buffer stays", x.clearBuffer(), 1);
    }

    private static void stops(String text, int part, int why) {
        RibbonBalloons x = new RibbonBalloons();
        x.vent(0, 60);
        x.cut(0);
        Checks.type(x, text);
        Checks.due("parts of " + text, x.work(), part);
        Checks.due("stop of " + text, x.stopped(0), part);
        Checks.due("reason of " + text, x.stopped(1), why);
        Checks.due("undoable, also if none is done", x.count(14), 3);
        Checks.due("the buffer is clear", x.clearBuffer(), 0);
    }

    private static void promise16Stops() {
        stops("f11;h9", 0, 2);
        stops("h1;f199;d1", 1, 2);
        stops("v160;v11;h1", 1, 3);
        stops("d0;d0;d0;d0;d0;h1", 4, 4);
        stops("p0;p0;p0;p0;p0;p0;p0", 6, 5);
        stops("p1;h1", 0, 6);
        stops("c6;c6", 1, 9);
        stops("p0;p0;p0;p0;p0;p0;f099;f01;n0", 7, 2);
        RibbonBalloons x = new RibbonBalloons();
        x.vent(0, 60);
        x.vent(1, 60);
        x.cut(0);
        x.tie(0, 0);
        Checks.type(x, "f199;f199;f13;f12;h1");
        Checks.due("up to 200", x.work(), 2);
        Checks.due("the first reason", x.stopped(1), 1);
        Checks.due("filled", x.balloon(1, 0), 198);
    }

    private static void promise16Incomplete() {
        String[] wrong = {"", "f", "f0", "d", "d0;", "h", "h1;", "h1;n", "c7", "h1;x", "h100", "d0d", "f00"};
        for (String text : wrong) {
            RibbonBalloons x = new RibbonBalloons();
            x.drop(0);
            Checks.type(x, text);
            Checks.unchanged("work of " + text, x, () -> Checks.argument("work of " + text, () -> x.work()));
            Checks.due("the buffer stays", x.clearBuffer(), text.length());
        }
    }

    private static void promise16LatestStop() {
        RibbonBalloons x = new RibbonBalloons();
        Checks.type(x, "p0");
        x.work();
        Checks.due("a stop", x.stopped(1), 6);
        x.drop(0);
        Checks.due("it stays", x.stopped(1), 6);
        x.append('x');
        Checks.argument("wrong work", () -> x.work());
        Checks.due("it stays", x.stopped(1), 6);
        x.clearBuffer();
        Checks.type(x, "h1;c0;c0");
        x.work();
        Checks.due("the next stop", x.stopped(0), 2);
        Checks.due("its reason", x.stopped(1), 9);
        Checks.type(x, "h1");
        x.work();
        Checks.due("no stop", x.stopped(0), RibbonBalloons.NONE);
        Checks.due("no reason", x.stopped(1), RibbonBalloons.NONE);
        x.undo();
        Checks.due("undone", x.stopped(1), 9);
        x.undo();
        Checks.due("undone", x.stopped(1), 6);
    }

    private static void promise17Keep() {
        RibbonBalloons x = new RibbonBalloons();
        Checks.due("keep", x.keep(), 0);
        Checks.due("not undoable", x.count(14), 0);
        x.pass(5);
        Checks.due("keep in place of it", x.keep(), 5);
        x.pass(2);
        Checks.due("back to the latest", x.goBack(), 5);
        x.undo();
        x.undo();
        x.undo();
        Checks.due("the snapshot is not undone", x.goBack(), 5);
    }

    private static void promise18GoBack() {
        RibbonBalloons x = new RibbonBalloons();
        Checks.unchanged("goBack that throws", x, () -> Checks.state("no snapshot", () -> x.goBack()));
        x.drop(0);
        x.tune(1, 9);
        x.note(2);
        x.leak(3, 3);
        x.bear(4, 33);
        Checks.type(x, "p7");
        x.work();
        Checks.due("keep", x.keep(), 0);
        long kept = x.digest();
        changeAll(x);
        Checks.due("hours", x.count(0), 7);
        long changed = x.digest();
        x.append('z');
        Checks.due("goBack", x.goBack(), 0);
        Checks.due("the buffer stays", x.clearBuffer(), 1);
        Checks.due("all is as kept", x.digest(), kept);
        Checks.due("undoable", x.undo(), 5);
        x.drop(7);
        x.undo();
        x.leak(0, 5);
        Checks.due("undone", x.digest() == changed ? 1 : 0, 0);
        x.leak(0, 1);
        Checks.due("the snapshot stays", x.goBack(), 0);
        Checks.due("all is as kept", x.digest(), kept);
        Checks.due("and again", x.goBack(), 0);
    }

    private static void promise18NotesAndAltimeters() {
        RibbonBalloons x = new RibbonBalloons();
        x.pass(3);
        x.tune(1, 8);
        x.note(5);
        x.keep();
        x.undo();
        x.undo();
        x.pass(1);
        x.note(6);
        x.goBack();
        Checks.due("the note's balloon", x.noted(0, 0), 5);
        Checks.due("the note's hour", x.noted(0, 1), 3);
        Checks.due("one note", x.count(13), 1);
        Checks.due("tuned just then", x.balloon(1, 8), 0);
        x.undo();
        Checks.due("the other note's balloon", x.noted(0, 0), 6);
        Checks.due("never tuned", x.balloon(1, 8), 4);
    }

    private static void changeAll(RibbonBalloons x) {
        x.vent(6, 60);
        x.cut(6);
        x.fill(6, 5);
        x.put(6);
        x.tie(6, 300);
        x.leak(3, 8);
        x.bear(4, 5);
        x.tune(1, -9);
        x.drop(2);
        x.pass(7);
        x.note(2);
        x.note(1);
        Checks.type(x, "c0;c0");
        x.work();
    }

    private static void promise19Undo() {
        RibbonBalloons x = new RibbonBalloons();
        Checks.unchanged("undo that throws", x, () -> Checks.state("none", () -> x.undo()));
        long[] digests = new long[14];
        for (int step = 0; step < 14; step++) {
            digests[step] = x.digest();
            step(x, step);
        }
        Checks.due("6 are saved", x.count(14), 6);
        for (int left = 5; left >= 0; left--) {
            Checks.due("undo", x.undo(), left);
            digestButSaved(x, digests[8 + left], left);
        }
        Checks.state("all are undone", () -> x.undo());
    }

    private static void step(RibbonBalloons x, int step) {
        switch (step) {
            case 8: x.vent(0, 60); break;
            case 9: x.put(0); break;
            case 10: x.cut(3); break;
            case 11: x.pass(40); break;
            case 12: x.note(7); break;
            case 13: x.fill(0, 9); break;
            default: x.tune(step, step); break;
        }
    }

    /** Six saved states are counted in the digest that was, fewer in the one that is. */
    private static void digestButSaved(RibbonBalloons x, long before, int left) {
        long factor = 1;
        int behind = 8 * 20 + 7 * 7 + 3 * x.count(13) + 2 + 2 + 2 + 1 + 1;
        for (int value = 0; value < behind; value++) {
            factor *= 31;
        }
        Checks.due("undone to " + left, x.digest(), before - (6 - left) * factor);
    }

    private static void promise19UndoEach() {
        RibbonBalloons x = new RibbonBalloons();
        x.keep();
        long first = x.digest();
        Runnable[] deeds = {
            () -> x.vent(0, 60), () -> x.drop(1), () -> x.leak(2, 7), () -> x.cut(3), () -> x.bear(4, 0),
            () -> x.tune(5, 1), () -> x.note(6), () -> x.pass(33), () -> x.goBack(),
            () -> { Checks.type(x, "d0;d0;d0;d0;d0"); x.work(); },
            () -> { Checks.type(x, "p1"); x.work(); },
        };
        for (int deed = 0; deed < deeds.length; deed++) {
            deeds[deed].run();
            Checks.due("deed " + deed + " is saved", x.count(14), 1);
            Checks.due("deed " + deed + " is undone", x.undo(), 0);
            Checks.due("all is as before deed " + deed, x.digest(), first);
        }
    }

    public static void main(String[] args) {
        promise13Append();
        promise14ClearBuffer();
        promise15FirstError();
        promise15AFullBuffer();
        promise16Work();
        promise16Stops();
        promise16Incomplete();
        promise16LatestStop();
        promise17Keep();
        promise18GoBack();
        promise18NotesAndAltimeters();
        promise19Undo();
        promise19UndoEach();
        Checks.end("TextTests");
    }
}
