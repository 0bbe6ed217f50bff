/** Promises 11 to 14: part, grid, hour, better. */
public final class GridTest {
    private static final int NONE = FilmWeeks.NONE;
    private static final Due due = new Due("GridTest");

    public static void main(String[] args) {
        parts();
        crowdAndWorth();
        hours();
        betterTies();
        betterLooksBeside();
        betterKeepsToWhy();
        betterStopsAtForty();
        betterKeepsTheRest();
        due.end();
    }

    private static void parts() {
        FilmWeeks x = new FilmWeeks();
        x.hall(0, 2000, 0, 1);
        x.film(10, 0, 333);
        int[][] wrong = {{-1, 0}, {24, 0}, {0, -1}, {0, 301}};
        for (int[] w : wrong) {
            due.is("part with a wrong number", x.part(w[0], w[1]), -1);
        }
        x.put(0, 0, 59, 0);
        x.put(0, 0, 1440 + 60, 0);
        x.put(0, 0, 14399 - 9, 0);
        due.is("100 at first", x.of(0, 5), 333);
        due.is("part", x.part(0, 50), 0);
        due.is("cut", x.of(0, 5), 166);
        due.is("another hour", x.of(1, 5), 333);
        due.is("part", x.part(1, 300), 0);
        due.is("the minute of the day", x.of(1, 5), 999);
        due.is("part", x.part(23, 0), 0);
        due.is("the last hour", x.of(2, 5), 0);
        due.is("grid()", x.grid(), 166 + 999);
    }

    private static void crowdAndWorth() {
        FilmWeeks x = new FilmWeeks();
        x.hall(0, 40, 0, 1);
        x.hall(0, 2000, 0, 1);
        x.hall(1, 2000, 0, 1);
        x.hall(0, 2000, 0, 1);
        for (int i = 0; i < 4; i++) {
            x.film(100, 0, 101 + i);
        }
        x.put(0, 0, 600, 0);
        due.is("crowd", x.of(0, 5), 101);
        due.is("worth: at most the seats", x.of(0, 6), 40);
        x.put(1, 1, 699, 0);
        due.is("beside by a minute", x.of(0, 5), 50);
        due.is("beside by a minute", x.of(1, 5), 51);
        x.put(2, 2, 600, 0);
        due.is("in another town", x.of(2, 5), 103);
        due.is("in another town", x.of(0, 5), 50);
        x.put(3, 3, 700, 0);
        due.is("at its end", x.of(0, 5), 50);
        due.is("beside two", x.of(1, 5), 34);
        due.is("beside one", x.of(3, 5), 52);
        due.is("grid()", x.grid(), 40 + 34 + 103 + 52);
        x.take(1);
        due.is("one taken out", x.of(0, 5), 101);
        due.is("grid()", x.grid(), 40 + 103 + 104);
    }

    private static void hours() {
        FilmWeeks x = new FilmWeeks();
        due.is("wrong", x.hour(-1), -1);
        due.is("wrong", x.hour(14400), -1);
        for (int i = 1; i <= 10; i++) {
            due.is("hour, alike ones too", x.hour(i < 5 ? 0 : 14399), i);
        }
        due.is("an eleventh", x.hour(0), -5);
        due.is("an eleventh that is wrong", x.hour(-1), -1);
        due.is("count(6)", x.count(6), 10);
        due.is("better()", x.better(), 0);
        due.is("count(6)", x.count(6), 0);
        due.is("hour", x.hour(0), 1);
    }

    private static void betterTies() {
        FilmWeeks x = new FilmWeeks();
        for (int i = 0; i < 4; i++) {
            x.hall(i, i == 0 ? 10 : 100, 0, 1);
        }
        x.film(10, 0, 100);
        x.film(10, 0, 100);
        x.put(0, 0, 600, 0);
        x.put(1, 0, 700, 0);
        x.hour(5000);
        x.hour(4000);
        due.is("better()", x.better(), 2);
        due.is("the lower hall", x.of(0, 1), 1);
        due.is("the hour told first", x.of(0, 2), 5000);
        due.is("then the other showing", x.of(1, 1), 1);
        due.is("the hour that is left", x.of(1, 2), 4000);

        FilmWeeks y = new FilmWeeks();
        y.hall(0, 10, 0, 1);
        y.hall(0, 100, 0, 1);
        y.film(10, 0, 100);
        y.put(0, 0, 600, 0);
        due.is("without hours: another hall", y.better(), 1);
        due.is("as it began", y.of(0, 2), 600);
        due.is("another hall", y.of(0, 1), 1);
        due.is("no more", y.better(), 0);
    }

    private static void betterLooksBeside() {
        FilmWeeks x = new FilmWeeks();
        x.hall(0, 200, 0, 1);
        x.hall(0, 200, 0, 1);
        x.hall(1, 200, 0, 1);
        x.film(100, 0, 100);
        x.film(100, 0, 90);
        x.put(0, 0, 600, 0);
        x.put(1, 1, 650, 0);
        due.is("grid()", x.grid(), 50 + 45);
        x.hour(1200);
        due.is("the one that stays wins too", x.better(), 1);
        due.is("the lower showing, the lower hall", x.of(0, 1), 0);
        due.is("the hour", x.of(0, 2), 1200);
        due.is("grid()", x.grid(), 190);

        int[] fames = {1000, 983, 982, 981, 980, 800};
        for (int fame : fames) {
            FilmWeeks y = new FilmWeeks();
            y.hall(0, 9, 0, 1);
            y.hall(1, 2000, 0, 1);
            y.hall(1, 2000, 0, 1);
            y.film(100, 0, fame);
            y.film(100, 0, 1000);
            y.put(0, 1, 600, 0);
            y.put(1, 0, 600, 0);
            y.bar(0, 0, 0, NONE);
            int before = fame + 9;
            due.is("grid()", y.grid(), before);
            int changes = fame / 2 + 500 > before ? 1 : 0;
            due.is("what it takes from the other is looked at, fame " + fame, y.better(), changes);
            due.is("grid()", y.grid(), changes == 1 ? fame / 2 + 500 : before);
        }
    }

    private static void betterKeepsToWhy() {
        FilmWeeks x = new FilmWeeks();
        x.hall(0, 100, 0, 1);
        x.film(100, 0, 10);
        x.part(10, 10);
        x.part(2, 20);
        x.part(22, 30);
        x.guest(0, 600, 800);
        x.put(0, 0, 600, 1);
        x.hour(1320);
        due.is("the guest is not there", x.better(), 0);
        x.take(0);
        x.put(0, 0, 0, 2);
        x.part(0, 10);
        x.hour(300);
        due.is("it is a late one", x.better(), 0);
        x.hour(1320);
        x.bar(0, 0, 1, NONE);
        due.is("itself taken out: at most one", x.better(), 1);
        due.is("at a late hour", x.of(1, 2), 1320);
        due.is("its end goes along", x.of(1, 4), 1420);
        due.is("its sort is kept", x.of(1, 3), 2);
        x.part(22, 5);
        x.hour(1330);
        x.part(23, 300);
        x.hour(1380);
        due.is("over where it was itself", x.better(), 1);
        due.is("to the greatest", x.of(1, 2), 1380);
        x.part(23, 5);
        x.hour(14399);
        x.bar(0, 0, 60, NONE);
        due.is("it would end too late", x.better(), 0);
    }

    /** Fifty showings could each win: the fortieth change is the last. */
    private static void betterStopsAtForty() {
        FilmWeeks x = new FilmWeeks();
        x.hall(0, 1, 0, 1);
        x.hall(1, 100, 0, 1);
        x.film(10, 0, 100);
        for (int i = 0; i < 50; i++) {
            x.put(0, 0, i * 20, 0);
        }
        due.is("better()", x.better(), 40);
        due.is("grid()", x.grid(), 40 * 100 + 10);
        due.is("the lower ones went first", x.of(39, 1), 1);
        due.is("the lower ones went first", x.of(40, 1), 0);
        due.is("better()", x.better(), 10);
        due.is("better()", x.better(), 0);
    }

    private static void betterKeepsTheRest() {
        FilmWeeks x = new FilmWeeks();
        x.hall(0, 1, 0, 1);
        x.hall(1, 100, 0, 1);
        x.film(10, 0, 100);
        x.put(0, 0, 600, 0);
        x.come(0, -40, 7);
        x.delay(0, 9);
        x.hour(900);
        x.take(9);
        due.is("better()", x.better(), 1);
        due.is("better() leaves the status", x.status(), -2);
        due.is("the hour comes ahead of its own beginning", x.of(0, 2), 900);
        due.is("those who come stay", x.queue(0, -40, 2), 7);
        due.is("the delay stays", x.of(0, 8), 919);
    }
}
