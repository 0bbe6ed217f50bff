import java.nio.charset.StandardCharsets;
import java.util.Arrays;

/** Compares answers with those that are due, and ends a test with exit code 1 if one was wrong. */
final class Due {
    /** A call that can be made on any object, so that it can be made on fresh ones. */
    interface Call {
        int on(FilmWeeks x);
    }

    private static final int MOST_MILLIS = 600000;

    private final String test;
    private int asked = 0;
    private int wrong = 0;

    Due(String test) {
        this.test = test;
        Thread watch = new Thread(this::failIfItDoesNotEnd);
        watch.setDaemon(true);
        watch.start();
    }

    /** A call that fails to end is a wrong answer too: it must not hold up .ci/run for ever. */
    private void failIfItDoesNotEnd() {
        try {
            Thread.sleep(MOST_MILLIS);
            System.out.println(test + ": a call has not ended");
            Runtime.getRuntime().halt(1);
        } catch (InterruptedException e) {
            System.out.println(test + ": no longer watched");
        }
    }

    void is(String call, long got, long want) {
        asked++;
        if (got != want) {
            wrong++;
            System.out.println(test + ": " + call + " answered " + got + ", due is " + want);
        }
    }

    void holds(String what, boolean good) {
        is(what, good ? 1 : 0, 1);
    }

    /** The code, and that status told none ahead of the call and tells it behind. */
    void refused(String what, FilmWeeks x, Call call, int code) {
        tellNone(x);
        is(what, call.on(x), code);
        is("status() behind " + what, x.status(), code);
    }

    /** The answer, and that status told a code ahead of the call and tells none behind. */
    void taken(String what, FilmWeeks x, Call call, int answer) {
        tellCode(x);
        is(what, call.on(x), answer);
        is("status() behind " + what, x.status(), 0);
    }

    /** The answer of a call that only asks: twice the same, and status stays, be it a code or 0. */
    void asked(String what, FilmWeeks x, Call call, int answer) {
        tellCode(x);
        is(what, call.on(x), answer);
        is("status() behind " + what, x.status(), -1);
        tellNone(x);
        is(what + ", again", call.on(x), answer);
        is("status() behind " + what + ", again", x.status(), 0);
    }

    /** Leaves all but status, where no test tells the PART of hour 23 anew. */
    static void tellNone(FilmWeeks x) {
        x.part(23, 100);
    }

    /** Leaves all but status: a refused call. */
    static void tellCode(FilmWeeks x) {
        x.part(24, 100);
    }

    void end() {
        System.out.println(test + ": " + asked + " answers, " + wrong + " not as due");
        if (wrong != 0 || asked == 0) {
            System.exit(1);
        }
    }

    /** Feeds a text to the tape and cuts it at its length. */
    static void feed(FilmWeeks x, String text) {
        byte[] bytes = text.getBytes(StandardCharsets.ISO_8859_1);
        int start = x.count(7);
        for (int i = 0; i < bytes.length; i += 20) {
            byte[] twenty = Arrays.copyOfRange(bytes, i, i + 20);
            x.feed(four(twenty, 0), four(twenty, 4), four(twenty, 8), four(twenty, 12), four(twenty, 16));
        }
        x.end(start + bytes.length);
    }

    static int rules(FilmWeeks x, String text) {
        x.end(0);
        feed(x, text);
        return x.rules();
    }

    private static int four(byte[] b, int i) {
        return (b[i] & 255) << 24 | (b[i + 1] & 255) << 16 | (b[i + 2] & 255) << 8 | b[i + 3] & 255;
    }
}
