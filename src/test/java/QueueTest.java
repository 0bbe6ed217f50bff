/** Promises 15 to 18: come, doors, delay, queue; and TRUE beginning and END of promise 10. */
public final class QueueTest {
    private static final int NONE = FilmWeeks.NONE;
    private static final Due due = new Due("QueueTest");

    public static void main(String[] args) {
        come();
        doors();
        delays();
        lateInHall();
        latePrint();
        onlyTheOneAhead();
        doorsOpenAndShut();
        seatsEnd();
        lateDoors();
        wrongQueue();
        due.end();
    }

    private static FilmWeeks oneShowing(int seats) {
        FilmWeeks x = new FilmWeeks();
        x.hall(0, seats, 0, 1);
        x.film(60, 0, 1);
        x.put(0, 0, 600, 0);
        return x;
    }

    private static void come() {
        FilmWeeks x = oneShowing(2000);
        int[][] wrong = {{0, -41, 0}, {0, 11, 0}, {0, 0, -1}, {0, 0, 1001}, {1, 11, 0}};
        for (int[] w : wrong) {
            due.is("come with a wrong number", x.come(w[0], w[1], w[2]), -1);
        }
        due.is("come to none", x.come(1, 0, 0), -2);
        due.is("come to none", x.come(-1, 0, 0), -2);
        due.is("come", x.come(0, -40, 1000), 0);
        due.is("come", x.come(0, 10, 3), 0);
        due.is("come", x.come(0, 5, 4), 0);
        due.is("told anew, not more", x.come(0, 5, 6), 0);
        due.is("have come", x.queue(0, -40, 2), 1000);
        due.is("have come", x.queue(0, 4, 2), 1000);
        due.is("have come", x.queue(0, 5, 2), 1006);
        due.is("have come", x.queue(0, 9, 2), 1006);
        due.is("have come", x.queue(0, 10, 2), 1009);
        due.is("have come", x.queue(0, 400, 2), 1009);
        due.is("none comes", x.come(0, -40, 0), 0);
        due.is("have come", x.queue(0, 400, 2), 9);
    }

    private static void doors() {
        FilmWeeks x = new FilmWeeks();
        due.is("wrong", x.doors(0), -1);
        due.is("wrong", x.doors(501), -1);
        due.is("50 at first", x.doors(1), 50);
        due.is("what they were", x.doors(500), 1);
        due.is("wrong ones change nothing", x.doors(-5), -1);
        due.is("what they were", x.doors(500), 500);
    }

    private static void delays() {
        FilmWeeks x = oneShowing(10);
        due.is("wrong", x.delay(0, -1), -1);
        due.is("wrong", x.delay(0, 301), -1);
        due.is("wrong, and none", x.delay(1, 301), -1);
        due.is("none", x.delay(1, 0), -2);
        due.is("0 at first", x.of(0, 8), 660);
        due.is("delay", x.delay(0, 300), 0);
        due.is("true end", x.of(0, 8), 960);
        due.is("true beginning", x.of(0, 7), 600);
        due.is("the end as told", x.of(0, 4), 660);
        due.is("delay", x.delay(0, 0), 0);
        due.is("true end", x.of(0, 8), 660);
    }

    private static void lateInHall() {
        FilmWeeks x = new FilmWeeks();
        x.hall(0, 10, 10, 1);
        x.hall(0, 10, 0, 1);
        for (int i = 0; i < 4; i++) {
            x.film(50, 0, 1);
        }
        x.put(2, 0, 800, 0);
        x.put(1, 0, 660, 0);
        x.put(0, 0, 600, 0);
        x.put(3, 1, 610, 0);
        due.is("in time", x.of(1, 7), 660);
        x.delay(2, 100);
        due.is("behind the one ahead", x.of(1, 7), 760);
        due.is("its end", x.of(1, 8), 810);
        due.is("one behind the other", x.of(0, 7), 820);
        due.is("its end", x.of(0, 8), 870);
        due.is("in another hall", x.of(3, 7), 610);
        due.is("as told", x.of(0, 2), 800);
        x.delay(1, 1);
        due.is("one's own delay", x.of(1, 8), 811);
        due.is("goes on", x.of(0, 7), 821);
        due.is("why looks at what was told", x.why(3, 0, 720, 0), 0);
        x.take(1);
        due.is("the one between is out", x.of(0, 7), 800);
        x.delay(2, 300);
        due.is("still behind the first", x.of(0, 7), 960);
    }

    private static void latePrint() {
        FilmWeeks x = new FilmWeeks();
        x.hall(0, 10, 0, 1);
        x.hall(1, 10, 0, 1);
        x.hall(2, 10, 0, 1);
        x.film(50, 0, 1);
        x.film(50, 0, 1);
        x.way(0, 1, 20);
        x.put(0, 0, 600, 0);
        x.put(0, 1, 700, 0);
        x.put(1, 2, 700, 0);
        x.put(1, 1, 760, 0);
        due.is("in time", x.of(1, 7), 700);
        x.delay(0, 30);
        due.is("just in time", x.of(1, 7), 700);
        x.delay(0, 31);
        due.is("behind the print", x.of(1, 7), 701);
        due.is("another film", x.of(2, 7), 700);
        x.delay(0, 50);
        due.is("behind the print", x.of(1, 8), 770);
        due.is("and the hall behind that", x.of(3, 7), 770);
        x.delay(2, 100);
        due.is("or its own print, if that is later", x.of(3, 7), 850);
        x.way(2, 1, 7);
        due.is("and the way", x.of(3, 7), 857);
    }

    /** The way round is shorter than the direct WAY, so waiting for all of those ahead would be seen. */
    private static void onlyTheOneAhead() {
        FilmWeeks x = new FilmWeeks();
        x.hall(0, 10, 0, 1);
        x.hall(1, 10, 0, 1);
        x.hall(2, 10, 0, 1);
        x.film(50, 0, 1);
        x.film(50, 0, 1);
        x.way(0, 1, 10);
        x.way(1, 2, 20);
        x.put(0, 2, 1000, 0);
        x.put(0, 0, 600, 0);
        x.put(0, 1, 700, 0);
        x.put(1, 0, 710, 0);
        x.way(0, 2, 500);
        due.is("not the one ahead of the one ahead", x.of(0, 7), 1000);
        due.is("nor its end", x.of(0, 8), 1050);
        x.delay(1, 300);
        due.is("the one ahead is late", x.of(2, 7), 960);
        due.is("and makes the next one late", x.of(0, 7), 1030);
        due.is("the hall's one ahead", x.of(3, 7), 950);
        x.delay(2, 5);
        due.is("with its delay", x.of(0, 7), 1035);
        x.come(0, -40, 1);
        due.is("doors are shut ahead of the true beginning", x.queue(0, 4, 0), 0);
        due.is("and open by it", x.queue(0, 5, 0), 1);
        x.take(2);
        due.is("now the first is the one ahead", x.of(0, 7), 1450);
    }

    private static void doorsOpenAndShut() {
        FilmWeeks x = oneShowing(2000);
        x.doors(3);
        x.come(0, -40, 1000);
        due.is("shut", x.queue(0, -31, 0), 0);
        due.is("outside", x.queue(0, -31, 1), 1000);
        due.is("open", x.queue(0, -30, 0), 3);
        due.is("outside", x.queue(0, -30, 1), 997);
        due.is("the last minute", x.queue(0, 9, 0), 120);
        due.is("the last minute", x.queue(0, 10, 0), 123);
        due.is("shut", x.queue(0, 11, 0), 123);
        due.is("shut", x.queue(0, 400, 1), 877);
        x.come(0, -40, 4);
        due.is("as many as there are", x.queue(0, -29, 0), 4);
        x.come(0, 10, 2);
        due.is("who comes goes in that minute", x.queue(0, 10, 0), 6);
        due.is("none is outside", x.queue(0, 10, 1), 0);
    }

    private static void seatsEnd() {
        FilmWeeks x = oneShowing(5);
        x.come(0, -40, 4);
        x.come(0, 0, 4);
        due.is("in", x.queue(0, -30, 0), 4);
        due.is("the last seat", x.queue(0, 0, 0), 5);
        due.is("outside", x.queue(0, 0, 1), 3);
        due.is("no seat left", x.queue(0, 10, 0), 5);
    }

    private static void lateDoors() {
        FilmWeeks x = new FilmWeeks();
        x.hall(0, 2000, 0, 1);
        x.film(300, 0, 1);
        x.film(60, 0, 1);
        x.put(0, 0, 600, 0);
        x.put(1, 0, 900, 0);
        x.come(1, -40, 1000);
        x.come(1, 10, 5);
        x.doors(1);
        x.delay(0, 100);
        due.is("people come by the told beginning", x.queue(1, 10, 2), 1005);
        due.is("shut", x.queue(1, 69, 0), 0);
        due.is("open", x.queue(1, 70, 0), 1);
        due.is("the last minute", x.queue(1, 110, 0), 41);
        due.is("shut", x.queue(1, 111, 0), 41);
        x.delay(0, 300);
        due.is("late to the last minute that is told", x.queue(1, 310, 0), 41);
        due.is("not yet", x.queue(1, 269, 0), 0);
    }

    private static void wrongQueue() {
        FilmWeeks x = oneShowing(5);
        int[][] wrong = {{0, -41, 0}, {0, 401, 0}, {0, 0, 3}, {0, 0, -1}, {1, 0, 0}, {-1, 0, 0}, {60, 0, 0}};
        for (int[] w : wrong) {
            due.is("queue without", x.queue(w[0], w[1], w[2]), NONE);
        }
        due.is("it only asks", x.status(), 0);
    }
}
