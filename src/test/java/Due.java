import java.nio.charset.StandardCharsets;
import java.util.Arrays;

/** Compares answers with those that are due, and ends a test with exit code 1 if one was wrong. */
final class Due {
    private final String test;
    private int asked = 0;
    private int wrong = 0;

    Due(String test) {
        this.test = test;
    }

    void is(String call, long got, long want) {
        asked++;
        if (got != want) {
            wrong++;
            System.out.println(test + ": " + call + " answered " + got + ", due is " + want);
        }
    }

    void holds(String what, boolean good) {
        is(what, good ? 1 : 0, 1);
    }

    void end() {
        System.out.println(test + ": " + asked + " answers, " + wrong + " not as due");
        if (wrong != 0 || asked == 0) {
            System.exit(1);
        }
    }

    /** Feeds a text to the tape and cuts it at its length. */
    static void feed(FilmWeeks x, String text) {
        byte[] bytes = text.getBytes(StandardCharsets.ISO_8859_1);
        int start = x.count(7);
        for (int i = 0; i < bytes.length; i += 20) {
            byte[] twenty = Arrays.copyOfRange(bytes, i, i + 20);
            x.feed(four(twenty, 0), four(twenty, 4), four(twenty, 8), four(twenty, 12), four(twenty, 16));
        }
        x.end(start + bytes.length);
    }

    static int rules(FilmWeeks x, String text) {
        x.end(0);
        feed(x, text);
        return x.rules();
    }

    private static int four(byte[] b, int i) {
        return (b[i] & 255) << 24 | (b[i + 1] & 255) << 16 | (b[i + 2] & 255) << 8 | b[i + 3] & 255;
    }
}
