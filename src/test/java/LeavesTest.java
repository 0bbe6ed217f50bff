import java.util.ArrayList;
import java.util.List;
import java.util.function.Supplier;

/**
 * What a refused call leaves as it was: all but status. Of two objects made alike one has the refused call more; then
 * both are asked for all that an object can tell, and called to show what they would do next. Calls that only ask
 * leave all, status too.
 */
public final class LeavesTest {
    private static final int NONE = FilmWeeks.NONE;
    private static final Due due = new Due("LeavesTest");

    /** No more than this many of an object's 512 calls are for asking it. */
    private static final int GROUP = 180;

    public static void main(String[] args) {
        refusedByNumbers();
        refusedByMissing();
        refusedByReasonsAndTwice();
        refusedByNoRoom();
        tapeNone();
        onlyAsked();
        refusedRules();
        refusedPrize();
        refusedWithoutRules();
        due.end();
    }

    private static void refusedByNumbers() {
        leaves(-1, x -> x.hall(5, 1, 0, 1), x -> x.hall(0, 2001, 0, 1), x -> x.hall(0, 1, 121, 1), x -> x.hall(0, 1, 0, 16));
        leaves(-1, x -> x.film(301, 0, 1), x -> x.film(1, 4, 1), x -> x.film(1, 0, 1001));
        leaves(-1, x -> x.way(0, 0, 9), x -> x.way(0, 5, 9), x -> x.way(-1, 1, 9), x -> x.way(0, 1, 2001),
                x -> x.way(1, 0, -1));
        leaves(-1, x -> x.guest(0, 5, 4), x -> x.guest(0, NONE, 5), x -> x.guest(0, 5, NONE), x -> x.guest(1, 0, 14400));
        leaves(-1, x -> x.bar(0, 14400, 0, 1), x -> x.bar(0, 9000, 61, 1), x -> x.bar(0, 9000, -1, 1),
                x -> x.bar(0, 9000, 0, 0));
        leaves(-1, x -> x.put(4, 1, 14400, 0), x -> x.put(4, 1, -1, 0), x -> x.put(4, 1, 9000, 3));
        leaves(-1, x -> x.part(24, 5), x -> x.part(-1, 5), x -> x.part(10, 301), x -> x.part(10, -1));
        leaves(-1, x -> x.hour(-1), x -> x.hour(14400));
        leaves(-1, x -> x.come(0, -41, 5), x -> x.come(0, 11, 5), x -> x.come(0, -40, 1001), x -> x.come(0, -40, -1),
                x -> x.come(1, -41, 5));
        leaves(-1, x -> x.doors(0), x -> x.doors(501));
        leaves(-1, x -> x.delay(0, 301), x -> x.delay(0, -1));
        leaves(-1, x -> x.juror(121), x -> x.juror(-1));
        leaves(-1, x -> x.row(2, 0, 1, 0), x -> x.row(-1, 0, 1, 0), x -> x.row(0, 0, 1, 100001), x -> x.row(0, 0, 1, -1));
        leaves(-1, x -> x.prize(-1), x -> x.prize(100001));
    }

    private static void refusedByMissing() {
        leaves(-2, x -> x.guest(20, 0, 1), x -> x.guest(NONE, NONE, NONE));
        leaves(-2, x -> x.bar(20, 9000, 0, 1), x -> x.bar(0, 9000, 0, 20), x -> x.bar(0, 9000, 0, -2));
        leaves(-2, x -> x.put(20, 1, 9000, 0), x -> x.put(4, 4, 9000, 0));
        leaves(-2, x -> x.take(60), x -> x.take(NONE));
        leaves(-2, x -> x.come(60, 0, 5), x -> x.come(NONE, 10, 5), x -> x.delay(60, 5), x -> x.delay(NONE, 5));
        leaves(-2, x -> x.vote(10, 3), x -> x.vote(0, 20), x -> x.vote(NONE, 3), x -> x.vote(0, NONE));
        leaves(-2, x -> x.clear(10), x -> x.clear(NONE));
        leaves(-2, x -> x.row(0, 10, 1, 0), x -> x.row(0, 0, 20, 0));
        // In the rich object showing 5 is taken out.
        leaves(Office::rich, -2, x -> x.take(5), x -> x.come(5, 0, 9), x -> x.delay(5, 9));
    }

    private static void refusedByReasonsAndTwice() {
        leaves(-3, x -> x.put(0, 1, 14399, 0), x -> x.put(4, 1, 9000, 1), x -> x.put(4, 1, 9000, 2));
        leaves(Office::rich, -3, x -> x.put(1, 2, 9000, 0), x -> x.put(4, 0, 600, 0), x -> x.put(0, 2, 700, 0),
                x -> x.put(1, 1, 499, 0), x -> x.put(3, 1, 9000, 0), x -> x.put(1, 0, 700, 0));
        leaves(-4, x -> x.vote(0, 0), x -> x.vote(0, 1), x -> x.vote(1, 2));
    }

    private static void refusedByNoRoom() {
        leaves(Office::full, -5, x -> x.hall(4, 2000, 120, 1), x -> x.film(300, 0, 1000), x -> x.put(0, 0, 9000, 0),
                x -> x.hour(0), x -> x.juror(120), x -> x.vote(0, 19), x -> x.vote(9, 10), x -> x.row(0, 0, 1, 0),
                x -> x.row(1, 9, 19, 0));
    }

    private static void tapeNone() {
        alike("feed of a full TAPE", Office::full, x -> x.feed(1, 2, 3, 4, 5), NONE, all());
        alike("end beyond the TAPE", Office::full, x -> x.end(301), NONE, all());
        alike("end beyond the TAPE", Office::rich, x -> x.end(26), NONE, all());
        alike("end below 0", Office::rich, x -> x.end(-1), NONE, all());
        alike("end at all of it", Office::rich, x -> x.end(25), 25, all());
    }

    private static void onlyAsked() {
        List<Due.Call> asks = new ArrayList<>();
        for (int what = -1; what <= 9; what++) {
            int w = what;
            asks.add(x -> x.of(0, w));
            asks.add(x -> x.of(60, w));
            asks.add(x -> x.count(w));
            asks.add(x -> x.queue(0, 30, w));
        }
        asks.add(x -> x.why(4, 1, 9000, 0));
        asks.add(x -> x.why(0, 0, 600, 1));
        asks.add(x -> x.why(0, 0, -1, 1));
        asks.add(x -> x.why(20, 0, 0, 0));
        asks.add(x -> x.counts(0, 0, 5));
        asks.add(x -> x.counts(0, 0, -1));
        asks.add(x -> x.counts(10, 0, 0));
        asks.add(x -> x.round(NONE, 0));
        asks.add(x -> x.round(0, 0));
        asks.add(x -> x.round(99, 0));
        asks.add(x -> x.grid());
        asks.add(x -> x.fault());
        asks.add(x -> x.status());
        for (Due.Call ask : asks) {
            for (Supplier<FilmWeeks> made : List.<Supplier<FilmWeeks>>of(Office::rich, Office::full)) {
                List<Due.Call> probes = all();
                probes.add(0, x -> x.status());
                alike("a call that only asks", made, ask, ask.on(made.get()), probes);
            }
        }
    }

    /** Promise 25: -6: the RULES stay; the TAPE is empty then all the same, and FAULT is told. */
    private static void refusedRules() {
        String[] texts = {"", "x", "count old 99;points 1 2 3 4 5;tie first ;", "count kin;points 1 2 3 4 5 6;tie first"};
        int[] faults = {0, 0, 40, 27};
        for (int i = 0; i < texts.length; i++) {
            String text = texts[i];
            for (Supplier<FilmWeeks> made : List.<Supplier<FilmWeeks>>of(Office::rich, Office::full)) {
                alike("RULES of " + text, () -> emptied(made.get()), x -> Due.rules(x, text), -6, butFault());
                FilmWeeks x = made.get();
                due.refused("RULES of " + text, x, y -> Due.rules(y, text), -6);
                due.asked("their FAULT", x, y -> y.fault(), faults[i]);
                due.is("the TAPE is empty", x.count(7), 0);
            }
        }
    }

    private static FilmWeeks emptied(FilmWeeks x) {
        x.end(0);
        return x;
    }

    /** Promise 29: one that was REFUSED for want of a PRIZE is the latest all the same; it leaves the rest. */
    private static void refusedPrize() {
        Supplier<FilmWeeks> made = () -> {
            FilmWeeks x = Office.rich();
            Due.rules(x, "count kin;points 4 5;tie film");
            x.prize(20);
            return x;
        };
        FilmWeeks x = made.get();
        due.is("a ROUND is kept", x.round(NONE, 0), 1);
        due.is("a sum is kept", x.round(0, 1), 4);
        due.refused("no number", x, y -> y.prize(-1), -1);
        due.is("the ROUND is kept", x.round(NONE, 0), 1);
        due.is("the sum is kept", x.round(0, 1), 4);
        due.refused("no PRIZE", x, y -> y.prize(19), -6);
        due.is("no ROUND is kept", x.round(NONE, 0), 0);
        due.is("no sum is kept", x.round(0, 1), NONE);
        alike("no PRIZE", made, y -> y.prize(19), -6, butRounds());
    }

    private static void refusedWithoutRules() {
        Supplier<FilmWeeks> made = () -> {
            FilmWeeks x = new FilmWeeks();
            x.film(1, 0, 0);
            x.juror(0);
            x.vote(0, 0);
            return x;
        };
        alike("prize without RULES", made, x -> x.prize(0), -6, all());
        alike("rules without a TEXT", made, x -> x.rules(), -6, butFault());
        FilmWeeks x = made.get();
        x.rules();
        due.is("still no RULES", x.count(8), NONE);
        due.is("still no RULES", x.counts(0, 0, 0), -6);
        due.is("nothing is kept", x.round(NONE, 0), NONE);
    }

    private static void leaves(int code, Due.Call... refused) {
        leaves(Office::rich, code, refused);
        leaves(Office::full, code, refused);
    }

    private static void leaves(Supplier<FilmWeeks> made, int code, Due.Call... refused) {
        for (int i = 0; i < refused.length; i++) {
            alike("refused call " + i + " by " + code, made, refused[i], code, all());
        }
    }

    private static void alike(String what, Supplier<FilmWeeks> made, Due.Call call, int answer, List<Due.Call> probes) {
        for (int from = 0; from < probes.size(); from += GROUP) {
            FilmWeeks left = made.get();
            FilmWeeks x = made.get();
            due.is(what, call.on(x), answer);
            for (int i = from; i < Math.min(from + GROUP, probes.size()); i++) {
                due.is("behind " + what + ", probe " + i, probes.get(i).on(x), probes.get(i).on(left));
            }
        }
    }

    private static List<Due.Call> all() {
        List<Due.Call> probes = butFault();
        probes.add(0, x -> x.fault());
        return probes;
    }

    private static List<Due.Call> butFault() {
        List<Due.Call> probes = butRounds();
        for (int k = 3; k >= -1; k--) {
            for (int f = 0; f < 5; f++) {
                int round = k;
                int film = f;
                probes.add(0, x -> x.round(round, film));
            }
        }
        return probes;
    }

    private static List<Due.Call> butRounds() {
        List<Due.Call> probes = new ArrayList<>();
        askWhatThereIs(probes);
        askWhy(probes);
        askJury(probes);
        tryNext(probes);
        return probes;
    }

    private static void askWhatThereIs(List<Due.Call> probes) {
        for (int what = 0; what <= 8; what++) {
            int w = what;
            probes.add(x -> x.count(w));
            for (int showing : new int[] {0, 1, 2, 3, 4, 5, 6, 58, 59}) {
                probes.add(x -> x.of(showing, w));
            }
        }
        probes.add(x -> x.grid());
        for (int showing : new int[] {0, 1, 2, 59}) {
            for (int m : new int[] {-40, -30, 0, 10, 11, 60, 400}) {
                probes.add(x -> x.queue(showing, m, 0));
                probes.add(x -> x.queue(showing, m, 1));
            }
        }
    }

    private static void askWhy(List<Due.Call> probes) {
        for (int film : new int[] {0, 1, 3, 4, 5, 19}) {
            for (int begin : new int[] {0, 499, 620, 700, 720, 1330, 8999, 9000}) {
                for (int h = 0; h < 4; h++) {
                    int hall = h;
                    probes.add(x -> x.why(film, hall, begin, 0));
                    probes.add(x -> x.why(film, hall, begin, 1));
                }
            }
        }
    }

    private static void askJury(List<Due.Call> probes) {
        for (int juror : new int[] {0, 1, 2, 3, 4, 9}) {
            for (int film : new int[] {0, 1, 2, 3, 19}) {
                probes.add(x -> x.counts(juror, film, 0));
                probes.add(x -> x.counts(juror, film, 100000));
            }
        }
    }

    /** What the next calls would do tells the rest: the order of VOTES, HOURS, the bytes of the TAPE. */
    private static void tryNext(List<Due.Call> probes) {
        for (int known : new int[] {0, 15, 100000}) {
            probes.add(x -> x.prize(known));
            for (int f = 0; f < 5; f++) {
                int film = f;
                probes.add(x -> x.round(0, film));
            }
        }
        probes.add(x -> x.better());
        for (int s = 0; s < 6; s++) {
            int showing = s;
            probes.add(x -> x.of(showing, 1));
            probes.add(x -> x.of(showing, 2));
        }
        probes.add(x -> x.doors(9));
        probes.add(x -> x.hour(0));
        probes.add(x -> x.rules());
        probes.add(x -> x.fault());
        probes.add(x -> x.row(0, 0, 0, 0));
        probes.add(x -> x.juror(0));
        probes.add(x -> x.vote(0, 4));
        for (int j = 0; j < 10; j++) {
            int juror = j;
            probes.add(x -> x.clear(juror));
        }
        probes.add(x -> x.put(4, 0, 9500, 0));
        probes.add(x -> x.take(6));
        probes.add(x -> x.film(1, 0, 0));
        probes.add(x -> x.hall(0, 1, 0, 1));
    }
}
