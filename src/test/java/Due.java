import java.util.function.IntUnaryOperator;

/** What the tests share: it prints every answer that is not the one that is due. */
final class Due {
    private static final int MOST_PRINTED = 40;
    private static final long MOST_MILLISECONDS = 300_000;
    private static int asked = 0;
    private static int wrong = 0;

    static {
        Thread watch = new Thread(Due::failIfItDoesNotEnd);
        watch.setDaemon(true);
        watch.start();
    }

    private Due() {
    }

    private static void failIfItDoesNotEnd() {
        try {
            Thread.sleep(MOST_MILLISECONDS);
        } catch (InterruptedException e) {
            return;
        }
        System.out.println("a call does not end");
        Runtime.getRuntime().halt(1);
    }

    static void is(String call, long got, long want) {
        asked++;
        if (got != want) {
            wrong++;
            if (wrong <= MOST_PRINTED) {
                System.out.println(call + " answered " + got + ", due is " + want);
            }
        }
    }

    static void isTrue(String what, boolean it) {
        is(what, it ? 1 : 0, 1);
    }

    /** All that a call answers for 0, 1, 2 and so on. */
    static void row(String call, IntUnaryOperator answer, int... due) {
        for (int what = 0; what < due.length; what++) {
            is(call + " for " + what, answer.applyAsInt(what), due[what]);
        }
    }

    /** Ends the test, with exit code 1 if an answer was not as due. */
    static void end() {
        System.out.println(asked + " answers, " + wrong + " not as due");
        if (wrong != 0) {
            System.exit(1);
        }
    }

    /** Feeds a text to THE TAPE as its last bytes; the TAPE was empty. */
    static void feed(PrisonShops x, String text) {
        for (int i = 0; i < text.length(); i += 12) {
            x.feed(four(text, i), four(text, i + 4), four(text, i + 8));
        }
        x.trim(text.length());
    }

    private static int four(String text, int from) {
        int v = 0;
        for (int i = from; i < from + 4; i++) {
            v = v << 8 | (i < text.length() ? text.charAt(i) & 255 : 0);
        }
        return v;
    }

    /** A TEXT from a DAY on: what text() answers. */
    static int text(PrisonShops x, int day, String text) {
        feed(x, text);
        return x.text(day);
    }
}
