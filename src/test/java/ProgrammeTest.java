/** Promises 2 to 10: hall, film, way, guest, bar, why, put, take, of. */
public final class ProgrammeTest {
    private static final int NONE = FilmWeeks.NONE;
    private static final Due due = new Due("ProgrammeTest");

    public static void main(String[] args) {
        halls();
        films();
        ways();
        guests();
        bars();
        endAndFormat();
        hallTaken();
        printAway();
        first();
        late();
        notBeforeAndAtMost();
        beside();
        firstReasonIsTold();
        put();
        putHasNoRoom();
        sixtyIsWithout();
        take();
        of();
        due.end();
    }

    /** Halls 0 and 1 in town 0, hall 2 in town 1, hall 3 in town 2; all formats, nothing to clear. */
    private static FilmWeeks fourHalls() {
        FilmWeeks x = new FilmWeeks();
        x.hall(0, 100, 0, 15);
        x.hall(0, 100, 0, 15);
        x.hall(1, 100, 0, 15);
        x.hall(2, 100, 0, 15);
        return x;
    }

    private static void halls() {
        FilmWeeks x = new FilmWeeks();
        int[][] wrong = {
            {-1, 1, 0, 1}, {5, 1, 0, 1}, {0, 0, 0, 1}, {0, 2001, 0, 1}, {0, 1, -1, 1}, {0, 1, 121, 1}, {0, 1, 0, 0},
            {0, 1, 0, 16}, {Integer.MIN_VALUE, 1, 0, 1}, {0, Integer.MAX_VALUE, 0, 1},
        };
        for (int[] w : wrong) {
            due.is("hall with a wrong number", x.hall(w[0], w[1], w[2], w[3]), -1);
        }
        due.is("count(0)", x.count(0), 0);
        due.is("hall, all least", x.hall(0, 1, 0, 1), 0);
        due.is("hall, all most", x.hall(4, 2000, 120, 15), 1);
        due.is("hall", x.hall(1, 10, 10, 2), 2);
        due.is("hall", x.hall(1, 10, 10, 2), 3);
        due.is("a fifth hall", x.hall(1, 10, 10, 2), -5);
        due.is("a fifth hall with a wrong number", x.hall(5, 10, 10, 2), -1);
        due.is("count(0)", x.count(0), 4);
    }

    private static void films() {
        FilmWeeks x = new FilmWeeks();
        int[][] wrong = {{0, 0, 0}, {301, 0, 0}, {1, -1, 0}, {1, 4, 0}, {1, 0, -1}, {1, 0, 1001}};
        for (int[] w : wrong) {
            due.is("film with a wrong number", x.film(w[0], w[1], w[2]), -1);
        }
        due.is("film, all least", x.film(1, 0, 0), 0);
        due.is("film, all most", x.film(300, 3, 1000), 1);
        for (int i = 2; i < 20; i++) {
            due.is("film", x.film(90, 1, 10), i);
        }
        due.is("a film too many", x.film(90, 1, 10), -5);
        due.is("a film too many with a wrong number", x.film(0, 1, 10), -1);
        due.is("count(1)", x.count(1), 20);
    }

    private static void ways() {
        FilmWeeks x = fourHalls();
        int[][] wrong = {{0, 0, 0}, {4, 4, 1}, {-1, 0, 0}, {0, 5, 0}, {5, 0, 0}, {0, -1, 0}, {0, 1, -1}, {0, 1, 2001}};
        for (int[] w : wrong) {
            due.is("way with a wrong number", x.way(w[0], w[1], w[2]), -1);
        }
        x.film(10, 0, 0);
        x.put(0, 0, 5000, 0);
        due.is("the way is 0 at first", x.why(0, 2, 5010, 0), 0);
        due.is("way, the most", x.way(0, 1, 2000), 0);
        due.is("the way there", x.why(0, 2, 7009, 0), 4);
        due.is("the way there", x.why(0, 2, 7010, 0), 0);
        due.is("way from the other side", x.way(1, 0, 7), 0);
        due.is("it is the same way", x.why(0, 2, 5016, 0), 4);
        due.is("it is the same way", x.why(0, 2, 5017, 0), 0);
        due.is("no way within a town", x.why(0, 1, 5010, 0), 0);
        due.is("way, the least", x.way(0, 1, 0), 0);
        due.is("the way is gone", x.why(0, 2, 5010, 0), 0);
        due.is("another way", x.way(0, 2, 50), 0);
        due.is("is another one", x.why(0, 2, 5010, 0), 0);
        due.is("is another one", x.why(0, 3, 5059, 0), 4);
    }

    private static void guests() {
        FilmWeeks x = fourHalls();
        x.film(60, 0, 0);
        int[][] wrong = {{0, 5, 4}, {0, -1, 5}, {0, 5, -1}, {0, -2, -2}, {0, 14400, 14400}, {0, 0, 14400}};
        for (int[] w : wrong) {
            due.is("guest with a wrong minute", x.guest(w[0], w[1], w[2]), -1);
        }
        due.is("guest of no film", x.guest(1, 0, 0), -2);
        due.is("guest of no film", x.guest(-1, 0, 0), -2);
        due.is("guest of no film, wrong minute", x.guest(1, 5, 4), -1);
        due.is("no guest of no film", x.guest(1, NONE, NONE), -2);
        due.is("one minute", x.guest(0, 7, 7), 0);
        due.is("all minutes", x.guest(0, 0, 14399), 0);
        due.is("why", x.why(0, 0, 100, 1), 0);
        due.is("put", x.put(0, 0, 100, 1), 0);
        due.is("no guest", x.guest(0, NONE, NONE), 0);
        due.is("why", x.why(0, 0, 200, 1), 5);
        due.is("the showing that there is stays", x.of(0, 3), 1);
    }

    private static void bars() {
        FilmWeeks x = fourHalls();
        x.film(60, 0, 0);
        x.film(60, 0, 0);
        int[][] wrong = {{0, -1, 60, NONE}, {0, 14400, 60, NONE}, {0, 0, -1, NONE}, {0, 0, 61, NONE}, {0, 0, 60, 0}};
        for (int[] w : wrong) {
            due.is("bar with a wrong number", x.bar(w[0], w[1], w[2], w[3]), -1);
        }
        due.is("bar of no film", x.bar(2, 0, 60, NONE), -2);
        due.is("bar of no film", x.bar(-1, 0, 60, NONE), -2);
        due.is("bar beside no film", x.bar(0, 0, 60, 2), -2);
        due.is("bar beside no film", x.bar(0, 0, 60, -2), -2);
        due.is("bar of no film, wrong number", x.bar(2, 0, 61, NONE), -1);
        due.is("bar of no film beside itself", x.bar(2, 0, 60, 2), -1);
        due.is("refused bars bar nothing", x.why(0, 0, 0, 0), 0);
        due.is("put", x.put(0, 0, 100, 0), 0);
        due.is("bar", x.bar(0, 14399, 0, 1), 0);
        due.is("the showing that there is stays", x.of(0, 2), 100);
        due.is("why", x.why(0, 0, 200, 0), 7);
        due.is("bar", x.bar(0, 0, 0, NONE), 0);
        due.is("why", x.why(0, 0, 200, 0), 8);
        due.is("without", x.bar(0, 0, 60, NONE), 0);
        due.is("why", x.why(0, 0, 200, 0), 0);
    }

    private static void endAndFormat() {
        FilmWeeks x = new FilmWeeks();
        x.hall(0, 100, 120, 5);
        for (int format = 0; format < 4; format++) {
            x.film(100, format, 0);
        }
        due.is("ends at 14400", x.why(0, 0, 14300, 0), 0);
        due.is("ends behind it", x.why(0, 0, 14301, 0), 1);
        due.is("the end comes first", x.why(1, 0, 14399, 0), 1);
        due.is("format 0", x.why(0, 0, 0, 0), 0);
        due.is("format 1", x.why(1, 0, 0, 0), 2);
        due.is("format 2", x.why(2, 0, 0, 0), 0);
        due.is("format 3", x.why(3, 0, 0, 0), 2);
        due.is("no such film", x.why(4, 0, 0, 0), -2);
        due.is("no such hall", x.why(0, 1, 0, 0), -2);
        due.is("no such hall", x.why(0, -1, 0, 0), -2);
        due.is("no such minute", x.why(0, 0, -1, 0), -1);
        due.is("no such minute", x.why(0, 0, 14400, 0), -1);
        due.is("no such sort", x.why(0, 0, 0, -1), -1);
        due.is("no such sort, film, hall", x.why(9, 9, 0, 3), -1);
    }

    private static void hallTaken() {
        FilmWeeks x = new FilmWeeks();
        x.hall(0, 100, 20, 1);
        x.hall(0, 100, 0, 1);
        x.film(100, 0, 0);
        x.film(50, 0, 0);
        x.put(0, 0, 1000, 0);
        due.is("behind, a minute short", x.why(1, 0, 1119, 0), 3);
        due.is("behind", x.why(1, 0, 1120, 0), 0);
        due.is("ahead, a minute short", x.why(1, 0, 931, 0), 3);
        due.is("ahead", x.why(1, 0, 930, 0), 0);
        due.is("within", x.why(1, 0, 1020, 0), 3);
        due.is("at once", x.why(1, 0, 1000, 0), 3);
        due.is("in the other hall", x.why(1, 1, 1020, 0), 0);
        due.is("the hall comes ahead of the print", x.why(0, 0, 1020, 0), 3);
        x.take(0);
        due.is("taken out", x.why(1, 0, 1020, 0), 0);
    }

    private static void printAway() {
        FilmWeeks x = fourHalls();
        x.film(100, 0, 0);
        x.way(0, 1, 30);
        x.put(0, 0, 1000, 0);
        due.is("alike", x.why(0, 1, 1000, 0), 4);
        due.is("while it runs", x.why(0, 1, 1099, 0), 4);
        due.is("at its end", x.why(0, 1, 1100, 0), 0);
        due.is("ahead of it", x.why(0, 1, 901, 0), 4);
        due.is("ahead of it", x.why(0, 1, 900, 0), 0);
        due.is("the way there", x.why(0, 2, 1129, 0), 4);
        due.is("the way there", x.why(0, 2, 1130, 0), 0);
        due.is("the way from there", x.why(0, 2, 871, 0), 4);
        due.is("the way from there", x.why(0, 2, 870, 0), 0);
        due.is("no way told", x.why(0, 3, 1100, 0), 0);
        x.put(0, 0, 1100, 0);
        due.is("all others are looked at", x.why(0, 2, 1130, 0), 4);
    }

    private static void first() {
        FilmWeeks x = fourHalls();
        x.film(100, 0, 0);
        due.is("no guest", x.why(0, 0, 1000, 1), 5);
        x.guest(0, 1000, 1101);
        due.is("there", x.why(0, 0, 1000, 1), 0);
        due.is("there to the end", x.why(0, 0, 1001, 1), 0);
        due.is("gone at the end", x.why(0, 0, 1002, 1), 5);
        due.is("not yet there", x.why(0, 0, 999, 1), 5);
        due.is("a plain one needs no guest", x.why(0, 0, 999, 0), 0);
        due.is("a late one needs no guest", x.why(0, 0, 1330, 2), 0);
        x.guest(0, 0, 14399);
        due.is("the end is a minute behind the last", x.why(0, 0, 14300, 1), 5);
        due.is("the last", x.why(0, 0, 14299, 1), 0);
    }

    private static void late() {
        FilmWeeks x = fourHalls();
        x.film(10, 0, 0);
        int[][] hours = {{0, 0}, {119, 0}, {120, 6}, {1319, 6}, {1320, 0}, {1439, 0}, {1440, 0}, {1559, 0}, {1560, 6},
            {2759, 6}, {2760, 0}, {14279, 6}, {14280, 0}};
        for (int[] h : hours) {
            due.is("late at " + h[0], x.why(0, 0, h[0], 2), h[1]);
            due.is("plain at " + h[0], x.why(0, 0, h[0], 0), 0);
        }
    }

    private static void notBeforeAndAtMost() {
        FilmWeeks x = fourHalls();
        x.film(10, 0, 0);
        x.film(10, 0, 0);
        x.bar(0, 500, 2, NONE);
        due.is("before", x.why(0, 0, 499, 0), 7);
        due.is("not before", x.why(0, 0, 500, 0), 0);
        due.is("another film", x.why(1, 0, 499, 0), 0);
        x.put(0, 0, 500, 0);
        x.put(1, 0, 600, 0);
        due.is("a second", x.why(0, 0, 700, 0), 0);
        x.put(0, 0, 700, 0);
        due.is("a third", x.why(0, 0, 800, 0), 8);
        due.is("before comes ahead of at most", x.why(0, 0, 400, 0), 7);
        x.take(0);
        due.is("one taken out", x.why(0, 0, 800, 0), 0);
    }

    private static void beside() {
        FilmWeeks x = fourHalls();
        x.film(100, 0, 0);
        x.film(50, 0, 0);
        x.film(50, 0, 0);
        x.bar(0, 0, 60, 1);
        x.put(1, 0, 1000, 0);
        due.is("its own bar", x.why(0, 1, 1049, 0), 9);
        due.is("at the other's end", x.why(0, 1, 1050, 0), 0);
        due.is("ahead of the other", x.why(0, 1, 900, 0), 0);
        due.is("into the other", x.why(0, 1, 901, 0), 9);
        due.is("in another town", x.why(0, 2, 1000, 0), 0);
        due.is("a film without", x.why(2, 1, 1000, 0), 0);
        x.put(0, 1, 2000, 0);
        due.is("the other film's bar", x.why(1, 0, 2099, 0), 9);
        due.is("the other film's bar", x.why(1, 0, 2100, 0), 0);
        due.is("the other film's bar", x.why(1, 0, 1951, 0), 9);
        due.is("the other film's bar, another town", x.why(1, 3, 2000, 0), 0);
        x.bar(0, 0, 60, 2);
        due.is("another film instead", x.why(1, 0, 2050, 0), 0);
        due.is("another film instead", x.why(2, 0, 2050, 0), 9);
        x.bar(0, 0, 60, NONE);
        due.is("without", x.why(2, 0, 2050, 0), 0);
    }

    private static void firstReasonIsTold() {
        FilmWeeks x = new FilmWeeks();
        x.hall(0, 10, 0, 1);
        x.hall(0, 10, 0, 2);
        x.hall(0, 10, 0, 1);
        x.film(10, 0, 0);
        x.film(10, 0, 0);
        x.put(0, 0, 1000, 0);
        x.put(1, 0, 3000, 0);
        x.bar(0, 5000, 1, 1);
        due.is("format ahead of hall", x.why(0, 1, 1000, 1), 2);
        due.is("hall ahead of print", x.why(0, 0, 1000, 1), 3);
        due.is("print ahead of guest", x.why(0, 2, 1000, 1), 4);
        due.is("guest ahead of bars", x.why(0, 2, 3000, 1), 5);
        due.is("late ahead of bars", x.why(0, 2, 3000, 2), 6);
        due.is("before ahead of most", x.why(0, 2, 3000, 0), 7);
        x.bar(0, 0, 1, 1);
        due.is("most ahead of beside", x.why(0, 2, 3000, 0), 8);
        x.bar(0, 0, 2, 1);
        due.is("beside", x.why(0, 2, 3000, 0), 9);
    }

    private static void put() {
        FilmWeeks x = fourHalls();
        x.film(10, 0, 0);
        due.is("wrong minute", x.put(0, 0, -1, 0), -1);
        due.is("wrong sort, no film", x.put(3, 0, 0, 4), -1);
        due.is("no film", x.put(1, 0, 0, 0), -2);
        due.is("no hall", x.put(0, 4, 0, 0), -2);
        due.is("barred", x.put(0, 0, 0, 1), -3);
        due.is("barred by its end", x.put(0, 0, 14391, 0), -3);
        due.is("nothing was put", x.count(3), 0);
        due.is("put", x.put(0, 0, 0, 2), 0);
        due.is("put again", x.put(0, 0, 0, 2), -3);
        due.is("put", x.put(0, 1, 10, 0), 1);
        due.is("count(2)", x.count(2), 2);
    }

    private static void putHasNoRoom() {
        FilmWeeks x = fourHalls();
        x.film(10, 0, 0);
        for (int i = 0; i < 60; i++) {
            due.is("put", x.put(0, 0, i * 10, 0), i);
            if (i % 2 == 0) {
                x.take(i);
            }
        }
        due.is("count(2)", x.count(2), 30);
        due.is("count(3)", x.count(3), 60);
        due.is("no room", x.put(0, 0, 0, 0), -5);
        due.is("why says nothing of it", x.why(0, 0, 0, 0), 0);
        due.is("barred comes ahead of no room", x.put(0, 0, 10, 0), -3);
        due.is("no film comes ahead of no room", x.put(1, 0, 0, 0), -2);
        due.is("the last is there", x.of(59, 2), 590);
    }

    private static void sixtyIsWithout() {
        FilmWeeks x = fourHalls();
        x.film(10, 0, 0);
        for (int i = 0; i < 60; i++) {
            x.put(0, 0, i * 10, 0);
        }
        due.is("count(2)", x.count(2), 60);
        due.is("no bar at first", x.why(0, 0, 1000, 0), 0);
        due.is("no room", x.put(0, 0, 1000, 0), -5);
        x.bar(0, 0, 59, NONE);
        due.is("at most 59", x.why(0, 0, 1000, 0), 8);
        due.is("at most 59", x.put(0, 0, 1000, 0), -3);
        x.bar(0, 0, 60, NONE);
        due.is("60: without", x.why(0, 0, 1000, 0), 0);
        due.is("no room", x.put(0, 0, 1000, 0), -5);
    }

    private static void take() {
        FilmWeeks x = fourHalls();
        x.film(10, 0, 0);
        x.put(0, 0, 0, 0);
        x.put(0, 0, 100, 0);
        due.is("none", x.take(2), -2);
        due.is("none", x.take(-1), -2);
        due.is("none", x.take(60), -2);
        due.is("none", x.take(Integer.MAX_VALUE), -2);
        due.is("take", x.take(0), 0);
        due.is("take again", x.take(0), -2);
        due.is("the other stays", x.of(1, 2), 100);
        due.is("its number is not used again", x.put(0, 0, 0, 0), 2);
        due.is("come to what is out", x.come(0, 0, 1), -2);
        due.is("delay of what is out", x.delay(0, 1), -2);
        due.is("queue of what is out", x.queue(0, 0, 0), NONE);
    }

    private static void of() {
        FilmWeeks x = fourHalls();
        x.film(10, 0, 50);
        x.film(90, 3, 70);
        x.guest(1, 0, 14399);
        x.put(1, 2, 4321, 1);
        int[] want = {1, 2, 4321, 1, 4411, 70, 70, 4321, 4411};
        for (int what = 0; what < want.length; what++) {
            due.is("of(0, " + what + ")", x.of(0, what), want[what]);
        }
        due.is("of(0, 9)", x.of(0, 9), NONE);
        due.is("of(0, -1)", x.of(0, -1), NONE);
        due.is("of(1, 0)", x.of(1, 0), NONE);
        due.is("of(-1, 0)", x.of(-1, 0), NONE);
        due.is("of(60, 0)", x.of(60, 0), NONE);
        x.take(0);
        for (int what = 0; what < want.length; what++) {
            due.is("of what is out", x.of(0, what), NONE);
        }
    }
}
