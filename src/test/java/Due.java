/** What the tests share: answers that are due, and a run's end with exit code 1 if one was another. */
final class Due {
    private static int wrong = 0;
    private static volatile String sentence = "";

    // A call that fails to end is a fault, too: it must not hold up the run of all tests.
    private static final long MOST_SECONDS = 600;

    static {
        Thread watch = new Thread(Due::giveUp);
        watch.setDaemon(true);
        watch.start();
    }

    private Due() {
    }

    private static void giveUp() {
        try {
            Thread.sleep(1000 * MOST_SECONDS);
        } catch (InterruptedException e) {
            return;
        }
        System.out.println(sentence + "the test has not ended after " + MOST_SECONDS + " seconds");
        Runtime.getRuntime().halt(1);
    }

    interface Call {
        long answer();
    }

    /** The document's words that a test is about stand before each fault that it finds. */
    static void sentence(String words, Runnable test) {
        sentence = "'" + words + "': ";
        try {
            test.run();
        } catch (RuntimeException e) {
            tell("the test was ended by " + e);
        }
        sentence = "";
    }

    static void is(String call, long got, long want) {
        if (got != want) {
            tell(call + " answered " + got + ", due is " + want);
        }
    }

    static void is(String call, boolean got, boolean want) {
        is(call, got ? 1L : 0L, want ? 1L : 0L);
    }

    static void outOfBounds(String call, Call made) {
        isThrown(call, made, IndexOutOfBoundsException.class);
    }

    static void illegalArgument(String call, Call made) {
        isThrown(call, made, IllegalArgumentException.class);
    }

    static void illegalState(String call, Call made) {
        isThrown(call, made, IllegalStateException.class);
    }

    // The very class is due: what the machine throws is often one below it.
    private static void isThrown(String call, Call made, Class<?> want) {
        try {
            tell(call + " answered " + made.answer() + ", due is " + want.getSimpleName());
        } catch (RuntimeException e) {
            if (e.getClass() != want) {
                tell(call + " threw " + e + ", due is " + want.getSimpleName());
            }
        }
    }

    static void tell(String fault) {
        wrong++;
        System.out.println(sentence + fault);
    }

    static boolean allRight() {
        return wrong == 0;
    }

    static void end() {
        System.out.println(wrong == 0 ? "all answers are as due" : wrong + " answers are not as due");
        if (wrong != 0) {
            System.exit(1);
        }
    }

    static void letters(PinKindChecks x, String text) {
        for (int i = 0; i < text.length(); i++) {
            is("unit of " + text, x.unit(text.charAt(i)), true);
        }
    }

    static int told(PinKindChecks x, String text) {
        letters(x, text);
        return x.rule();
    }

    /** One remark whole, but for its reason: rule, kind of thing, thing, weight, first version. */
    static void remark(PinKindChecks x, int k, int... want) {
        for (int what = 0; what < want.length; what++) {
            is("remark(" + k + ", " + what + ")", x.remark(k, what), want[what]);
        }
    }

    static void remarks(PinKindChecks x, int count) {
        if (count > 0) {
            x.remark(count - 1, 0);
        }
        outOfBounds("remark(" + count + ", 0)", () -> x.remark(count, 0));
    }

    /** One closed remark whole: rule, kind of thing, thing, first version. */
    static void closed(PinKindChecks x, int k, int... want) {
        for (int what = 0; what < want.length; what++) {
            is("closed(" + k + ", " + what + ")", x.closed(k, what), want[what]);
        }
    }

    static void closedCount(PinKindChecks x, int count) {
        if (count > 0) {
            x.closed(count - 1, 0);
        }
        outOfBounds("closed(" + count + ", 0)", () -> x.closed(count, 0));
    }
}
