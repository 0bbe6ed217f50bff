/**
 * "The first of these in that order": calls that more than one code would refuse, and beside each the same call
 * without what the first code refuses; and WHY, "the first of these", of every set of reasons.
 */
public final class OrderTest {
    private static final int NONE = FilmWeeks.NONE;
    private static final Due due = new Due("OrderTest");

    public static void main(String[] args) {
        hallAndFilm();
        guest();
        bar();
        putNumbersAhead();
        putWhenFull();
        showingsNotThere();
        hourAndJuror();
        vote();
        row();
        counts();
        prize();
        everySetOfReasons();
        due.end();
    }

    private static void hallAndFilm() {
        int[][] halls = {{5, 1, 0, 1}, {0, 0, 0, 1}, {0, 1, 121, 1}, {0, 1, 0, 0}, {-1, 2001, -1, 16}};
        for (int[] h : halls) {
            due.refused("hall: -1 ahead of -5", Office.full(), x -> x.hall(h[0], h[1], h[2], h[3]), -1);
        }
        due.refused("hall: -5", Office.full(), x -> x.hall(0, 1, 0, 1), -5);
        int[][] films = {{0, 0, 0}, {1, 4, 0}, {1, 0, 1001}, {301, -1, -1}};
        for (int[] f : films) {
            due.refused("film: -1 ahead of -5", Office.full(), x -> x.film(f[0], f[1], f[2]), -1);
        }
        due.refused("film: -5", Office.full(), x -> x.film(1, 0, 0), -5);
    }

    private static void guest() {
        int[][] wrong = {{-2, 5}, {5, 14400}, {6, 5}, {NONE, 5}, {5, NONE}};
        for (int[] w : wrong) {
            due.refused("guest: -1 ahead of -2", Office.small(), x -> x.guest(2, w[0], w[1]), -1);
            due.refused("guest: -1 ahead of -2", Office.small(), x -> x.guest(NONE, w[0], w[1]), -1);
        }
        due.refused("guest: -2", Office.small(), x -> x.guest(2, 5, 5), -2);
        due.refused("guest: -2", Office.small(), x -> x.guest(NONE, NONE, NONE), -2);
    }

    private static void bar() {
        int[][] wrong = {{-1, 60, 2}, {14400, 60, 2}, {0, -1, 2}, {0, 61, 2}, {0, 61, NONE}};
        for (int[] w : wrong) {
            due.refused("bar: -1 ahead of -2, no FILM", Office.small(), x -> x.bar(3, w[0], w[1], w[2]), -1);
            due.refused("bar: -1 ahead of -2, of the one beside", Office.small(), x -> x.bar(0, w[0], w[1], 2), -1);
        }
        due.refused("bar: beside itself ahead of no FILM", Office.small(), x -> x.bar(2, 0, 60, 2), -1);
        due.refused("bar: -2, no FILM", Office.small(), x -> x.bar(3, 0, 60, 2), -2);
        due.refused("bar: -2, no FILM", Office.small(), x -> x.bar(2, 0, 60, 0), -2);
        due.refused("bar: -2, of the one beside", Office.small(), x -> x.bar(0, 0, 60, 2), -2);
        due.refused("bar: NONE beside is not itself", Office.small(), x -> x.bar(NONE, 0, 60, NONE), -2);
    }

    /** Showing 0 is FILM 0's in HALL 0 at 600. */
    private static void putNumbersAhead() {
        int[][] wrong = {{2, 0, -1, 0}, {2, 0, 14400, 0}, {0, 2, 600, -1}, {0, 2, 600, 3}, {0, 0, 600, 3}, {2, 2, -1, 3}};
        for (int[] w : wrong) {
            due.refused("put: -1 ahead of -2 and -3", Office.small(), x -> x.put(w[0], w[1], w[2], w[3]), -1);
            due.asked("why: -1 ahead of -2 and all reasons", Office.small(), x -> x.why(w[0], w[1], w[2], w[3]), -1);
        }
        int[][] missing = {{2, 0, 600, 0}, {0, 2, 600, 0}, {0, 2, 14399, 1}, {NONE, NONE, 600, 0}};
        for (int[] m : missing) {
            due.refused("put: -2 ahead of -3", Office.small(), x -> x.put(m[0], m[1], m[2], m[3]), -2);
            due.asked("why: -2 ahead of all reasons", Office.small(), x -> x.why(m[0], m[1], m[2], m[3]), -2);
        }
        due.refused("put: -3", Office.small(), x -> x.put(0, 0, 600, 0), -3);
        due.asked("why: a reason", Office.small(), x -> x.why(0, 0, 600, 0), 3);
    }

    private static void putWhenFull() {
        due.refused("put: -1 ahead of -5", Office.full(), x -> x.put(0, 0, 14400, 0), -1);
        due.refused("put: -1 ahead of -5", Office.full(), x -> x.put(0, 0, 9000, 3), -1);
        due.refused("put: -2 ahead of -5", Office.full(), x -> x.put(20, 0, 9000, 0), -2);
        due.refused("put: -2 ahead of -5", Office.full(), x -> x.put(0, 4, 9000, 0), -2);
        due.refused("put: -3 ahead of -5", Office.full(), x -> x.put(0, 0, 14391, 0), -3);
        due.refused("put: -3 ahead of -5", Office.full(), x -> x.put(0, 0, 0, 0), -3);
        due.refused("put: -5", Office.full(), x -> x.put(0, 0, 9000, 0), -5);
        due.asked("why: no room is no reason", Office.full(), x -> x.why(0, 0, 9000, 0), 0);
    }

    private static void showingsNotThere() {
        due.refused("come: -1 ahead of -2, minute", Office.small(), x -> x.come(2, -41, 0), -1);
        due.refused("come: -1 ahead of -2, minute", Office.small(), x -> x.come(2, 11, 0), -1);
        due.refused("come: -1 ahead of -2, people", Office.small(), x -> x.come(2, 0, -1), -1);
        due.refused("come: -1 ahead of -2, people", Office.small(), x -> x.come(NONE, 0, 1001), -1);
        due.refused("come: -2", Office.small(), x -> x.come(2, 0, 0), -2);
        due.refused("delay: -1 ahead of -2", Office.small(), x -> x.delay(2, -1), -1);
        due.refused("delay: -1 ahead of -2", Office.small(), x -> x.delay(NONE, 301), -1);
        due.refused("delay: -2", Office.small(), x -> x.delay(2, 0), -2);
    }

    private static void hourAndJuror() {
        due.refused("hour: -1 ahead of -5", Office.full(), x -> x.hour(-1), -1);
        due.refused("hour: -1 ahead of -5", Office.full(), x -> x.hour(14400), -1);
        due.refused("hour: -5", Office.full(), x -> x.hour(0), -5);
        due.refused("juror: -1 ahead of -5", Office.full(), x -> x.juror(-1), -1);
        due.refused("juror: -1 ahead of -5", Office.full(), x -> x.juror(121), -1);
        due.refused("juror: -5", Office.full(), x -> x.juror(0), -5);
    }

    private static void vote() {
        int among = Office.fullVote(0, 0);
        int last = Office.fullVote(0, 4);
        due.refused("vote: -2 ahead of -5", Office.full(), x -> x.vote(0, 20), -2);
        due.refused("vote: -2 ahead of -5", Office.full(), x -> x.vote(0, NONE), -2);
        due.refused("vote: -2, no juror", Office.full(), x -> x.vote(10, among), -2);
        due.refused("vote: -4 ahead of -5, the first", Office.full(), x -> x.vote(0, among), -4);
        due.refused("vote: -4 ahead of -5, the last", Office.full(), x -> x.vote(0, last), -4);
        due.refused("vote: -5", Office.full(), x -> x.vote(0, last + 1), -5);
        due.refused("vote: -4 with room", Office.small(), x -> x.vote(0, 0), -4);
    }

    private static void row() {
        int[][] wrong = {{-1, 20, 0, 0}, {2, 0, 20, 0}, {0, 10, 0, -1}, {0, 0, NONE, 100001}, {2, 0, 0, 0}, {0, 0, 0, -1}};
        for (int[] w : wrong) {
            due.refused("row: -1 ahead of -2 and -5", Office.full(), x -> x.row(w[0], w[1], w[2], w[3]), -1);
            due.refused("row: -1 ahead of -2", Office.small(), x -> x.row(w[0], w[1], w[2], w[3]), -1);
        }
        int[][] missing = {{0, 10, 0, 0}, {1, 0, 20, 0}, {1, NONE, NONE, 0}};
        for (int[] m : missing) {
            due.refused("row: -2 ahead of -5", Office.full(), x -> x.row(m[0], m[1], m[2], m[3]), -2);
            due.refused("row: -2", Office.small(), x -> x.row(m[0], m[1], m[2], m[3]), -2);
        }
        due.refused("row: -5", Office.full(), x -> x.row(0, 0, 0, 0), -5);
    }

    private static FilmWeeks withoutRules() {
        FilmWeeks x = new FilmWeeks();
        x.film(1, 0, 0);
        x.juror(0);
        x.vote(0, 0);
        return x;
    }

    private static void counts() {
        due.asked("counts: -1 ahead of -2 and -6", withoutRules(), x -> x.counts(1, 1, -1), -1);
        due.asked("counts: -1 ahead of -6", withoutRules(), x -> x.counts(0, 0, 100001), -1);
        due.asked("counts: -1 ahead of -2", Office.small(), x -> x.counts(2, 0, -1), -1);
        due.asked("counts: -2 ahead of -6, no juror", withoutRules(), x -> x.counts(1, 0, 0), -2);
        due.asked("counts: -2 ahead of -6, no FILM", withoutRules(), x -> x.counts(0, 1, 0), -2);
        due.asked("counts: -6", withoutRules(), x -> x.counts(0, 0, 0), -6);
    }

    private static void prize() {
        due.refused("prize: -1 ahead of -6, no RULES", withoutRules(), x -> x.prize(-1), -1);
        due.refused("prize: -1 ahead of -6, no RULES", withoutRules(), x -> x.prize(100001), -1);
        due.refused("prize: -6, no RULES", withoutRules(), x -> x.prize(0), -6);
        FilmWeeks x = withoutRules();
        Due.rules(x, "count kin;rounds;tie film");
        due.refused("prize: -1 ahead of -6, no PRIZE", x, y -> y.prize(100001), -1);
        due.refused("prize: -6, no PRIZE", x, y -> y.prize(100000), -6);
    }

    private static void everySetOfReasons() {
        int all = 1 << 9;
        for (int set = 0; set < all; set++) {
            if (has(set, 5) && has(set, 6)) {
                // One SORT alone is told: FIRST and LATE don't go together.
                continue;
            }
            int reasons = set;
            int first = set == 0 ? 0 : Integer.numberOfTrailingZeros(set) + 1;
            FilmWeeks x = barredBy(set);
            due.asked("why of reasons " + names(set), x, y -> asked(y, reasons), first);
            if (first == 0) {
                due.taken("put without a reason", x, y -> told(y, reasons), 3);
            } else {
                due.refused("put of reasons " + names(set), x, y -> told(y, reasons), -3);
            }
        }
    }

    private static boolean has(int set, int reason) {
        return (set >> reason - 1 & 1) == 1;
    }

    private static String names(int set) {
        StringBuilder names = new StringBuilder();
        for (int reason = 1; reason <= 9; reason++) {
            names.append(has(set, reason) ? " " + reason : "");
        }
        return names.toString();
    }

    /** What will be told is FILM 0's, 300 minutes long, in town 0. HALL, PRINT and BARS stand at their limits or just beyond. */
    private static FilmWeeks barredBy(int set) {
        FilmWeeks x = new FilmWeeks();
        x.hall(0, 10, 7, 5);
        x.hall(0, 10, 7, 4);
        x.hall(1, 10, 0, 1);
        x.hall(0, 10, 0, 4);
        x.film(300, 0, 0);
        x.film(10, 2, 0);
        x.film(10, 2, 0);
        int begin = begin(set);
        x.put(2, hall(set), begin - 10 - 7 + (has(set, 3) ? 1 : 0), 0);
        x.put(0, 2, begin - 300 - 40, 0);
        x.way(0, 1, has(set, 4) ? 41 : 40);
        x.put(1, 3, begin + 280, 0);
        x.guest(0, begin, 14399);
        x.bar(0, has(set, 7) ? begin + 1 : begin, has(set, 8) ? 1 : 2, has(set, 9) ? 1 : NONE);
        return x;
    }

    /** Minutes 1140 and 1141 of the last day: no hour of LATE. */
    private static int begin(int set) {
        return has(set, 1) ? 14101 : 14100;
    }

    private static int hall(int set) {
        return has(set, 2) ? 1 : 0;
    }

    private static int sort(int set) {
        return has(set, 5) ? 1 : has(set, 6) ? 2 : 0;
    }

    private static int asked(FilmWeeks x, int set) {
        return x.why(0, hall(set), begin(set), sort(set));
    }

    private static int told(FilmWeeks x, int set) {
        return x.put(0, hall(set), begin(set), sort(set));
    }
}
