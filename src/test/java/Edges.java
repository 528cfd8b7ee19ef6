import java.io.IOException;
import java.nio.file.Files;
import java.nio.file.Path;
import java.nio.file.Paths;
import java.util.ArrayList;
import java.util.HashMap;
import java.util.LinkedHashMap;
import java.util.List;
import java.util.Map;

/**
 * What the *EdgeTests share. An edge is a sentence of the document that names a boundary case, with a
 * test of its own. The sentence is quoted to the letter, and the quote is looked up in its section of
 * the document; at the end each sentence of the sections at hand has to be quoted, by an edge or as a
 * plain one, that names no boundary.
 */
abstract class Edges {
    /** A call with a number to choose. */
    interface NumberCall {
        long answer(int number);
    }

    private static final Path DOCUMENT = Paths.get("..", "shared", "DOC.md");
    // Beside the neighbours of a range: ends of int, and numbers that are in most ranges if they are cut to 8 or 16 bits.
    private static final int[] FAR = {Integer.MIN_VALUE, Integer.MAX_VALUE, 257, 65537};

    private static final Map<String, List<String>> sections = readSections();
    private static final Map<String, List<String>> quotes = new HashMap<>();
    private static String edge = "";
    private static int checks = 0;

    private static Map<String, List<String>> readSections() {
        Map<String, List<String>> read = new LinkedHashMap<>();
        List<String> section = new ArrayList<>();
        try {
            for (String line : Files.readAllLines(DOCUMENT)) {
                if (line.startsWith("#")) {
                    section = new ArrayList<>();
                    read.put(line.replaceFirst("#+ ", ""), section);
                } else if (!line.isEmpty()) {
                    section.add(line);
                }
            }
        } catch (IOException unread) {
            System.out.println("can not read " + DOCUMENT.toAbsolutePath() + ": " + unread);
        }
        return read;
    }

    private static void quote(String section, String sentence) {
        int found = 0;
        for (String line : sections.getOrDefault(section, List.of())) {
            found = line.contains(sentence) ? 1 : found;
        }
        Checks.due("\"" + section + "\" says \"" + sentence + "\"", found, 1);
        quotes.computeIfAbsent(section, name -> new ArrayList<>()).add(sentence);
    }

    /** A sentence of the document, or the part of it that names the case, and its test. */
    static void edge(String section, String sentence, Runnable test) {
        quote(section, sentence);
        edge = section + ", \"" + sentence + "\"";
        checks = 0;
        try {
            test.run();
        } catch (RuntimeException thrown) {
            Checks.due(edge + ", behind check " + checks + ", threw " + thrown, 1, 0);
        }
        Checks.due(edge + " is checked", checks > 0 ? 1 : 0, 1);
    }

    /** Sentences that name no boundary case. */
    static void plain(String section, String... sentences) {
        for (String sentence : sentences) {
            quote(section, sentence);
        }
    }

    private static String nextCheck() {
        checks++;
        return edge + ", check " + checks;
    }

    static void is(long got, long due) {
        Checks.due(nextCheck(), got, due);
    }

    static void are(int[] got, int... due) {
        is(got.length, due.length);
        for (int at = 0; at < got.length && at < due.length; at++) {
            is(got[at], due[at]);
        }
    }

    /** The call is refused, and the digest, so all but the saved states and the snapshot, stays. */
    static void index(RibbonBalloons x, Checks.Call call) {
        String check = nextCheck();
        Checks.unchanged(check, x, () -> Checks.index(check, call));
    }

    static void argument(RibbonBalloons x, Checks.Call call) {
        String check = nextCheck();
        Checks.unchanged(check, x, () -> Checks.argument(check, call));
    }

    static void state(RibbonBalloons x, Checks.Call call) {
        String check = nextCheck();
        Checks.unchanged(check, x, () -> Checks.state(check, call));
    }

    static void noBalloon(RibbonBalloons x, NumberCall call) {
        noSuch(x, 7, call);
    }

    static void noRibbon(RibbonBalloons x, NumberCall call) {
        noSuch(x, 6, call);
    }

    private static void noSuch(RibbonBalloons x, int most, NumberCall call) {
        index(x, () -> call.answer(-1));
        index(x, () -> call.answer(most + 1));
        for (int far : FAR) {
            index(x, () -> call.answer(far));
        }
    }

    static void outside(RibbonBalloons x, int least, int most, NumberCall call) {
        argument(x, () -> call.answer(least - 1));
        argument(x, () -> call.answer(most + 1));
        for (int far : FAR) {
            if (far < least || far > most) {
                argument(x, () -> call.answer(far));
            }
        }
    }

    /** The deed saves just the state from before it, and undo() brings that back. */
    static void undoable(RibbonBalloons x, Runnable deed) {
        int saved = x.count(14);
        is(saved < 6 ? 1 : 0, 1);
        long before = x.digest();
        deed.run();
        is(x.count(14), saved + 1);
        is(x.undo(), saved);
        is(x.digest(), before);
    }

    // ---- objects to begin with

    static RibbonBalloons fresh() {
        return new RibbonBalloons();
    }

    /**
     * The balloon 0, without gas, and with a ribbon of that length the balloon 1, without gas too; both
     * are apart from the others. 5 states are saved.
     */
    static RibbonBalloons kite(int length) {
        RibbonBalloons x = new RibbonBalloons();
        x.vent(0, 60);
        x.vent(1, 60);
        x.cut(1);
        x.cut(0);
        x.tie(0, length);
        return x;
    }

    /** A kite that wants 690 and leaks nothing. 6 states are saved. */
    static RibbonBalloons risen(int length) {
        RibbonBalloons x = kite(length);
        x.leak(1, 0);
        x.fill(1, 99);
        return x;
    }

    /** A kite without length, with 200 of gas and no bags: it wants 999. */
    static RibbonBalloons full() {
        RibbonBalloons x = kite(0);
        x.fill(1, 99);
        x.fill(1, 99);
        x.fill(1, 2);
        for (int bag = 0; bag < 4; bag++) {
            x.drop(1);
        }
        return x;
    }

    /** All ribbons are tied anew with that length, of 0 to 300, as all heights are 300. */
    static RibbonBalloons chain(int length) {
        RibbonBalloons x = new RibbonBalloons();
        for (int r = 0; r < 7; r++) {
            x.cut(r);
            x.tie(r, length);
        }
        return x;
    }

    static RibbonBalloons cutUp() {
        RibbonBalloons x = new RibbonBalloons();
        for (int r = 0; r < 7; r++) {
            x.cut(r);
        }
        return x;
    }

    // ---- what is asked often

    static int[] balloons(RibbonBalloons x, int what) {
        int[] answers = new int[8];
        for (int b = 0; b < 8; b++) {
            answers[b] = x.balloon(b, what);
        }
        return answers;
    }

    static int[] ribbons(RibbonBalloons x, int what) {
        int[] answers = new int[7];
        for (int r = 0; r < 7; r++) {
            answers[r] = x.ribbon(r, what);
        }
        return answers;
    }

    static int[] note(RibbonBalloons x, int rank) {
        return new int[] {x.noted(rank, 0), x.noted(rank, 1), x.noted(rank, 2)};
    }

    static void drop(RibbonBalloons x, int balloon, int bags) {
        for (int bag = 0; bag < bags; bag++) {
            x.drop(balloon);
        }
    }

    static void put(RibbonBalloons x, int balloon, int bags) {
        for (int bag = 0; bag < bags; bag++) {
            x.put(balloon);
        }
    }

    /** The buffer has that text then, and no other. */
    static void type(RibbonBalloons x, String text) {
        x.clearBuffer();
        Checks.type(x, text);
    }

    static int work(RibbonBalloons x, String text) {
        type(x, text);
        return x.work();
    }

    static int firstError(String text) {
        RibbonBalloons x = new RibbonBalloons();
        Checks.type(x, text);
        return x.firstError();
    }

    /** Both ends of what may stand there, and what stands just outside. */
    static void complete(String... texts) {
        for (String text : texts) {
            RibbonBalloons x = new RibbonBalloons();
            Checks.type(x, text);
            is(x.firstError(), text.length());
            is(x.work() >= 0 ? 1 : 0, 1);
        }
    }

    /** Texts that could become work, but are not. */
    static void open(String... texts) {
        for (String text : texts) {
            RibbonBalloons x = new RibbonBalloons();
            Checks.type(x, text);
            is(x.firstError(), text.length());
            argument(x, () -> x.work());
        }
    }

    /** Texts that go wrong at their last character. */
    static void wrong(String... texts) {
        for (String text : texts) {
            RibbonBalloons x = new RibbonBalloons();
            Checks.type(x, text);
            is(x.firstError(), text.length() - 1);
            argument(x, () -> x.work());
        }
    }

    /** Ends the program: each sentence of these sections has to be quoted by now. */
    static void end(String name, String... names) {
        for (String section : names) {
            Checks.due("there is \"" + section + "\"", sections.containsKey(section) ? 1 : 0, 1);
            for (String line : sections.getOrDefault(section, List.of())) {
                for (String sentence : sentences(line)) {
                    Checks.due("quoted in \"" + section + "\": " + sentence, isQuoted(section, sentence) ? 1 : 0, 1);
                }
            }
        }
        Checks.end(name);
    }

    // A promise's first line begins with the method's head, which FaceTests checks.
    private static String[] sentences(String line) {
        return line.replaceFirst("^`[^`]*`: ", "").split("(?<=\\.|;|\\.\\))\\s+");
    }

    private static boolean isQuoted(String section, String sentence) {
        for (String quote : quotes.getOrDefault(section, List.of())) {
            if (sentence.contains(quote) || quote.contains(sentence)) {
                return true;
            }
        }
        return false;
    }
}
