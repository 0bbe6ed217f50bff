/** Promises 30 and 31: count and status. */
public final class StatusTest {
    private static final Due due = new Due("StatusTest");

    public static void main(String[] args) {
        eachThatCanBeRefused();
        thoseThatOnlyAsk();
        counts();
        due.end();
    }

    private static void told(FilmWeeks x, int refused, int code) {
        due.is("the answer", refused, code);
        due.is("status()", x.status(), code);
        due.is("status() again", x.status(), code);
        x.doors(50);
        due.is("status() behind one that was not", x.status(), 0);
    }

    private static void taken(FilmWeeks x, int answer) {
        due.holds("not refused: " + answer, answer >= 0);
        due.is("status()", x.status(), 0);
        x.doors(0);
        due.is("status() behind one that was", x.status(), -1);
    }

    private static void eachThatCanBeRefused() {
        FilmWeeks x = new FilmWeeks();
        told(x, x.hall(9, 1, 0, 1), -1);
        told(x, x.film(0, 0, 0), -1);
        told(x, x.way(0, 0, 0), -1);
        told(x, x.guest(0, 0, 0), -2);
        told(x, x.bar(0, 0, 0, -1), -2);
        told(x, x.put(0, 0, 0, 0), -2);
        told(x, x.take(0), -2);
        told(x, x.part(24, 0), -1);
        told(x, x.hour(-1), -1);
        told(x, x.come(0, 0, 0), -2);
        told(x, x.delay(0, 0), -2);
        told(x, x.juror(-1), -1);
        told(x, x.vote(0, 0), -2);
        told(x, x.clear(0), -2);
        told(x, x.row(0, 0, 0, 0), -2);
        told(x, x.rules(), -6);
        told(x, x.prize(0), -6);
        x.doors(0);
        taken(x, x.hall(0, 1, 0, 1));
        taken(x, x.film(1, 0, 0));
        taken(x, x.way(0, 1, 0));
        taken(x, x.guest(0, 0, 0));
        taken(x, x.bar(0, 0, 60, -1));
        taken(x, x.put(0, 0, 0, 0));
        taken(x, x.come(0, 0, 0));
        taken(x, x.delay(0, 0));
        told(x, x.put(0, 0, 0, 0), -3);
        taken(x, x.take(0));
        taken(x, x.part(23, 0));
        taken(x, x.hour(0));
        taken(x, x.doors(9));
        taken(x, x.juror(0));
        taken(x, x.vote(0, 0));
        told(x, x.vote(0, 0), -4);
        taken(x, x.row(0, 0, 0, 0));
        taken(x, Due.rules(x, "count saw;rounds;tie film"));
        taken(x, x.prize(0));
        taken(x, x.clear(0));
        told(x, x.prize(0), -6);
        for (int i = 1; i < 4; i++) {
            x.hall(0, 1, 0, 1);
        }
        told(x, x.hall(0, 1, 0, 1), -5);
    }

    private static void thoseThatOnlyAsk() {
        FilmWeeks x = new FilmWeeks();
        x.hall(0, 1, 0, 1);
        x.film(1, 0, 0);
        x.put(0, 0, 0, 0);
        x.juror(5);
        x.doors(0);
        x.why(0, 0, 5, 0);
        x.of(0, 0);
        x.grid();
        x.better();
        x.queue(0, 0, 0);
        x.feed(0, 0, 0, 0, 0);
        x.end(0);
        x.fault();
        x.counts(0, 0, 0);
        x.round(-1, 0);
        x.count(0);
        due.is("those that ask leave a code", x.status(), -1);
        x.doors(5);
        x.why(9, 9, 9, 9);
        x.of(9, 9);
        x.queue(9, 9, 9);
        x.end(9);
        x.fault();
        x.counts(9, 9, 9);
        x.counts(0, 0, -1);
        x.round(9, 9);
        x.count(9);
        for (int i = 0; i < 16; i++) {
            x.feed(0, 0, 0, 0, 0);
        }
        due.is("those that ask leave a 0", x.status(), 0);
    }

    private static void counts() {
        FilmWeeks x = new FilmWeeks();
        x.hall(0, 1, 0, 1);
        for (int i = 0; i < 3; i++) {
            x.film(1, 0, 0);
        }
        for (int i = 0; i < 5; i++) {
            x.put(0, 0, 10 * i, 0);
        }
        x.take(2);
        for (int i = 0; i < 6; i++) {
            x.juror(0);
        }
        for (int i = 0; i < 7; i++) {
            x.row(0, 0, 0, 0);
        }
        for (int i = 0; i < 8; i++) {
            x.hour(i);
        }
        Due.rules(x, "count saw;points 1 2 3;tie film");
        x.feed(0, 0, 0, 0, 0);
        int[] want = {1, 3, 4, 5, 6, 7, 8, 20, 3};
        for (int what = 0; what < want.length; what++) {
            due.is("count(" + what + ")", x.count(what), want[what]);
        }
        due.is("count(9)", x.count(9), FilmWeeks.NONE);
        due.is("count(-1)", x.count(-1), FilmWeeks.NONE);
        due.is("count of others", x.count(Integer.MIN_VALUE), FilmWeeks.NONE);
    }
}
