/** Counts the checks of one test program, prints those that fail, and ends it. */
final class Checks {
    /** A call that may throw. */
    interface Call {
        long answer();
    }

    private static int good = 0;
    private static int bad = 0;

    private Checks() {
    }

    static void due(String what, long got, long want) {
        if (got == want) {
            good++;
        } else {
            bad++;
            System.out.println(what + " answered " + got + ", due is " + want);
        }
    }

    static void index(String what, Call call) {
        dueThrow(what, IndexOutOfBoundsException.class, call);
    }

    static void argument(String what, Call call) {
        dueThrow(what, IllegalArgumentException.class, call);
    }

    static void state(String what, Call call) {
        dueThrow(what, IllegalStateException.class, call);
    }

    private static void dueThrow(String what, Class<?> want, Call call) {
        String got;
        try {
            got = "answered " + call.answer();
        } catch (RuntimeException thrown) {
            // The very class: what the machine throws is often a class below the one that is due.
            got = thrown.getClass() == want ? null : "threw " + thrown;
        }
        if (got == null) {
            good++;
        } else {
            bad++;
            System.out.println(what + " " + got + ", due is a throw of " + want.getSimpleName());
        }
    }

    /** That calls which throw leave all as it was: the digest tells the whole state but the saved ones. */
    static void unchanged(String what, RibbonBalloons x, Runnable calls) {
        long digest = x.digest();
        calls.run();
        due(what + " leaves the digest", x.digest(), digest);
    }

    static void type(RibbonBalloons x, String text) {
        for (int at = 0; at < text.length(); at++) {
            x.append(text.charAt(at));
        }
    }

    static void end(String name) {
        System.out.println(name + ": " + good + " checks good, " + bad + " bad");
        if (bad != 0 || good == 0) {
            System.exit(1);
        }
    }
}
