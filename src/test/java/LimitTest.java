import java.util.function.Supplier;

/**
 * The limits of the numbers that each call takes (Terms I to IV; "-1 a number that can't be", "-2 there is no such"):
 * the least and the most of each, one beyond on either side, and numbers that could wrap around into the limits.
 */
public final class LimitTest {
    private static final int NONE = FilmWeeks.NONE;
    private static final Due due = new Due("LimitTest");

    interface Told {
        int on(FilmWeeks x, int n);
    }

    public static void main(String[] args) {
        hallsFilmsWays();
        guestsAndBars();
        showings();
        partsAndHours();
        queues();
        jury();
        whatIsAskedFor();
        filmNumbers();
        hallNumbers();
        showingNumbers();
        jurorNumbers();
        nothingThereAtFirst();
        due.end();
    }

    private static int[] beyond(int least, int most) {
        return new int[] {least - 1, most + 1, Integer.MIN_VALUE, Integer.MAX_VALUE, most + 65536, least - 65536,
            least + Integer.MIN_VALUE, most + Integer.MIN_VALUE};
    }

    private static int[] inside(int least, int most) {
        return new int[] {least, Math.min(least + 1, most), Math.max(most - 1, least), most};
    }

    private static void within(String what, int least, int most, Told call) {
        for (int n : inside(least, most)) {
            FilmWeeks x = Office.small();
            Due.tellCode(x);
            int answer = call.on(x, n);
            due.holds(what + " " + n + " can be, answered " + answer, answer >= 0);
            due.is("status() behind " + what + " " + n, x.status(), 0);
        }
        for (int n : beyond(least, most)) {
            due.refused(what + " " + n, Office.small(), x -> call.on(x, n), -1);
        }
    }

    /** The same of a call that only asks. */
    private static void asksWithin(String what, int least, int most, Supplier<FilmWeeks> made, Told call) {
        for (int n : inside(least, most)) {
            due.holds(what + " " + n + " can be", call.on(made.get(), n) >= 0);
        }
        for (int n : beyond(least, most)) {
            due.asked(what + " " + n, made.get(), x -> call.on(x, n), -1);
        }
    }

    private static void asksWithin(String what, int least, int most, Told call) {
        asksWithin(what, least, most, Office::small, call);
    }

    private static void hallsFilmsWays() {
        within("TOWN 0 .. 4", 0, 4, (x, n) -> x.hall(n, 1, 0, 1));
        within("SEATS 1 .. 2000", 1, 2000, (x, n) -> x.hall(0, n, 0, 1));
        within("CLEAR 0 .. 120", 0, 120, (x, n) -> x.hall(0, 1, n, 1));
        within("FORMATS 1 .. 15", 1, 15, (x, n) -> x.hall(0, 1, 0, n));
        within("MINUTES 1 .. 300", 1, 300, (x, n) -> x.film(n, 0, 0));
        within("FORMAT 0 .. 3", 0, 3, (x, n) -> x.film(1, n, 0));
        within("FAME 0 .. 1000", 0, 1000, (x, n) -> x.film(1, 0, n));
        within("WAY from a TOWN 0 .. 4", 0, 4, (x, n) -> x.way(n, 2, 5));
        within("WAY to a TOWN 0 .. 4", 0, 4, (x, n) -> x.way(2, n, 5));
        within("WAY of 0 .. 2000 minutes", 0, 2000, (x, n) -> x.way(3, 4, n));
        for (int town = 0; town < 5; town++) {
            int itself = town;
            due.refused("WAY of a TOWN to itself", Office.small(), x -> x.way(itself, itself, 0), -1);
        }
    }

    private static void guestsAndBars() {
        within("GUEST from 0 .. 14399", 0, 14399, (x, n) -> x.guest(0, n, 14399));
        within("GUEST to 0 .. 14399", 0, 14399, (x, n) -> x.guest(0, 0, n));
        within("GUEST from not behind to", 0, 500, (x, n) -> x.guest(0, n, 500));
        within("GUEST to not ahead of from", 500, 14399, (x, n) -> x.guest(0, 500, n));
        due.taken("both NONE: no GUEST", Office.small(), x -> x.guest(0, NONE, NONE), 0);
        due.refused("from alone NONE", Office.small(), x -> x.guest(0, NONE, 0), -1);
        due.refused("to alone NONE", Office.small(), x -> x.guest(0, 0, NONE), -1);
        due.refused("from and to below NONE", Office.small(), x -> x.guest(0, -2, -2), -1);
        due.refused("from NONE, to below", Office.small(), x -> x.guest(0, NONE, -2), -1);
        due.refused("to NONE, from below", Office.small(), x -> x.guest(0, -2, NONE), -1);
        within("not before 0 .. 14399", 0, 14399, (x, n) -> x.bar(0, n, 60, NONE));
        within("at most 0 .. 60", 0, 60, (x, n) -> x.bar(0, 0, n, NONE));
        due.taken("not beside NONE: without", Office.small(), x -> x.bar(0, 0, 60, NONE), 0);
        due.taken("not beside another", Office.small(), x -> x.bar(0, 0, 60, 1), 0);
        due.refused("not beside itself", Office.small(), x -> x.bar(0, 0, 60, 0), -1);
        due.refused("not beside itself", Office.small(), x -> x.bar(1, 0, 60, 1), -1);
    }

    private static void showings() {
        within("a beginning 0 .. 14399", 0, 14399, (x, n) -> x.put(1, 1, n, 0));
        within("a SORT 0 .. 2", 0, 2, (x, n) -> x.put(1, 1, 60, n));
        asksWithin("WHY of a beginning 0 .. 14399", 0, 14399, (x, n) -> x.why(1, 1, n, 0));
        asksWithin("WHY of a SORT 0 .. 2", 0, 2, (x, n) -> x.why(1, 1, 60, n));
    }

    private static void partsAndHours() {
        within("an hour 0 .. 23", 0, 23, (x, n) -> x.part(n, 100));
        within("PART 0 .. 300", 0, 300, (x, n) -> x.part(0, n));
        within("one of the HOURS 0 .. 14399", 0, 14399, (x, n) -> x.hour(n));
    }

    private static void queues() {
        within("come in minute -40 .. 10", -40, 10, (x, n) -> x.come(0, n, 1));
        within("0 .. 1000 people", 0, 1000, (x, n) -> x.come(0, 0, n));
        within("DOORS 1 .. 500", 1, 500, (x, n) -> x.doors(n));
        within("DELAY 0 .. 300", 0, 300, (x, n) -> x.delay(0, n));
        asksWithin("queue behind minute -40 .. 400", -40, 400, (x, n) -> x.queue(0, n, 2));
        asksWithin("queue, what 0 .. 2", 0, 2, (x, n) -> x.queue(0, 0, n));
    }

    private static void jury() {
        within("AGE 0 .. 120", 0, 120, (x, n) -> x.juror(n));
        within("ROW of sort 0 .. 1", 0, 1, (x, n) -> x.row(n, 0, 0, 0));
        within("ROW known from 0 .. 100000", 0, 100000, (x, n) -> x.row(0, 0, 0, n));
        within("PRIZE as known at 0 .. 100000", 0, 100000, (x, n) -> x.prize(n));
        asksWithin("COUNTS as known at 0 .. 100000", 0, 100000, (x, n) -> x.counts(0, 0, n));
    }

    private static void whatIsAskedFor() {
        asksWithin("of, what 0 .. 8", 0, 8, (x, n) -> x.of(0, n));
        asksWithin("count, what 0 .. 8", 0, 8, (x, n) -> x.count(n));
        asksWithin("the TAPE's first 0 .. 20 bytes", 0, 20, LimitTest::fed, (x, n) -> x.end(n));
        asksWithin("ROUND -1 .. 0", -1, 0, LimitTest::awarded, (x, n) -> x.round(n, 0));
        asksWithin("the sums of FILM 0 .. 1", 0, 1, LimitTest::awarded, (x, n) -> x.round(0, n));
        for (int film : beyond(0, 1)) {
            due.asked("how many ROUNDS, FILM any", awarded(), x -> x.round(NONE, film), 1);
        }
    }

    private static FilmWeeks fed() {
        FilmWeeks x = Office.small();
        x.feed(0, 0, 0, 0, 0);
        return x;
    }

    private static FilmWeeks awarded() {
        FilmWeeks x = Office.small();
        x.prize(0);
        return x;
    }

    /** How a call that names something that is not there answers. */
    interface Missing {
        void is(String what, FilmWeeks x, Due.Call call);
    }

    private static void refused(String what, int most, Told call) {
        numbers(what, most, -2, call, (named, x, made) -> due.refused(named, x, made, -2));
    }

    private static void asked(String what, int most, int code, Told call) {
        numbers(what, most, code, call, (named, x, made) -> due.asked(named, x, made, code));
    }

    /** Numbers of things run from 0 to one below how many there are, also where there can't be more. */
    private static void numbers(String what, int most, int code, Told call, Missing missing) {
        for (int n : inside(0, 1)) {
            due.holds(what + " " + n + " is there", call.on(Office.small(), n) != code);
        }
        for (int n : inside(0, most - 1)) {
            due.holds(what + " " + n + " is there, all are", call.on(Office.full(), n) != code);
        }
        for (int n : beyond(0, 1)) {
            missing.is(what + " " + n, Office.small(), x -> call.on(x, n));
        }
        for (int n : beyond(0, most - 1)) {
            missing.is(what + " " + n + ", all are there", Office.full(), x -> call.on(x, n));
        }
        missing.is(what + " 0, none is there", new FilmWeeks(), x -> call.on(x, 0));
    }

    private static void filmNumbers() {
        refused("GUEST of FILM", 20, (x, n) -> x.guest(n, 0, 0));
        refused("no GUEST of FILM", 20, (x, n) -> x.guest(n, NONE, NONE));
        refused("BARS of FILM", 20, (x, n) -> x.bar(n, 0, 60, NONE));
        asked("why of FILM", 20, -2, (x, n) -> x.why(n, 0, 0, 0));
        refused("put of FILM", 20, (x, n) -> x.put(n, 0, 0, 0));
        refused("vote for FILM", 20, (x, n) -> x.vote(0, n));
        refused("ROW of FILM", 20, (x, n) -> x.row(0, 0, n, 0));
        asked("counts of FILM", 20, -2, (x, n) -> x.counts(0, n, 0));
        due.refused("not beside FILM 2 of two", Office.small(), x -> x.bar(0, 0, 60, 2), -2);
        due.refused("not beside FILM -2", Office.small(), x -> x.bar(0, 0, 60, -2), -2);
        due.refused("not beside FILM 20 of twenty", Office.full(), x -> x.bar(0, 0, 60, 20), -2);
        due.taken("not beside FILM 19 of twenty", Office.full(), x -> x.bar(0, 0, 60, 19), 0);
    }

    private static void hallNumbers() {
        asked("why in HALL", 4, -2, (x, n) -> x.why(0, n, 0, 0));
        refused("put in HALL", 4, (x, n) -> x.put(0, n, 0, 0));
    }

    private static void showingNumbers() {
        refused("take of showing", 60, (x, n) -> x.take(n));
        asked("of showing", 60, NONE, (x, n) -> x.of(n, 2));
        refused("come to showing", 60, (x, n) -> x.come(n, 0, 0));
        refused("DELAY of showing", 60, (x, n) -> x.delay(n, 0));
        asked("QUEUE of showing", 60, NONE, (x, n) -> x.queue(n, 0, 0));
    }

    private static void jurorNumbers() {
        refused("vote of juror", 10, (x, n) -> x.vote(n, 0));
        refused("clear of juror", 10, (x, n) -> x.clear(n));
        refused("ROW of juror", 10, (x, n) -> x.row(0, n, 0, 0));
        asked("counts of juror", 10, -2, (x, n) -> x.counts(n, 0, 0));
    }

    /** Promise 1: no HALLS, FILMS, jurors, RULES; and Promise 31: 0 ahead of any. */
    private static void nothingThereAtFirst() {
        FilmWeeks x = new FilmWeeks();
        due.is("status() ahead of any", x.status(), 0);
        for (int what = 0; what < 8; what++) {
            due.is("count(" + what + ")", x.count(what), 0);
        }
        due.is("count(8) without RULES", x.count(8), NONE);
        due.is("status() behind count", x.status(), 0);
        due.refused("prize without RULES", x, y -> y.prize(0), -6);
        due.taken("the first HALL", x, y -> y.hall(0, 1, 0, 1), 0);
        due.taken("the first FILM", x, y -> y.film(1, 0, 0), 0);
        due.taken("the first juror", x, y -> y.juror(0), 0);
        due.taken("the first showing", x, y -> y.put(0, 0, 0, 0), 0);
        due.taken("the first of the HOURS", x, y -> y.hour(0), 1);
        due.taken("the first of VOTES", x, y -> y.vote(0, 0), 1);
        due.taken("the first ROW", x, y -> y.row(0, 0, 0, 0), 1);
        due.asked("counts without RULES", x, y -> y.counts(0, 0, 0), -6);
    }
}
