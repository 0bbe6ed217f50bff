/** Objects made ready for the tests; what makes them leaves many of their 512 calls. */
final class Office {
    /** RULES by which every FILM in VOTES COUNTS. */
    static final String ALL_COUNT = "count old 0;points 3 1;tie film";

    private Office() { }

    /** Two of each: HALLS in towns 0 and 1, FILMS of a minute, showings at 600 and 700, jurors; RULES stand. */
    static FilmWeeks small() {
        FilmWeeks x = new FilmWeeks();
        x.hall(0, 100, 0, 1);
        x.hall(1, 100, 0, 1);
        for (int i = 0; i < 2; i++) {
            x.film(1, 0, 50);
            x.guest(i, 0, 14399);
            x.juror(30);
            x.vote(i, i);
        }
        x.put(0, 0, 600, 0);
        x.put(1, 0, 700, 0);
        Due.rules(x, ALL_COUNT);
        return x;
    }

    /** All that can be full is: nothing more of anything has room. */
    static FilmWeeks full() {
        FilmWeeks x = new FilmWeeks();
        Due.rules(x, ALL_COUNT);
        for (int i = 0; i < 4; i++) {
            x.hall(i % 2, 20 + i, 0, 15);
        }
        for (int i = 0; i < 20; i++) {
            x.film(10, i % 4, 10 * i);
        }
        for (int i = 0; i < 60; i++) {
            x.put(i % 20, i % 4, fullBegin(i), 0);
        }
        for (int juror = 0; juror < 10; juror++) {
            x.juror(10 * juror);
            for (int i = 0; i < 5; i++) {
                x.vote(juror, fullVote(juror, i));
            }
        }
        for (int i = 0; i < 100; i++) {
            x.row(i % 2, i % 10, i / 5, 10 * i);
        }
        for (int i = 0; i < 10; i++) {
            x.hour(2000 + 100 * i);
        }
        Due.feed(x, "count saw;rounds;tie " + " ".repeat(279));
        return x;
    }

    static int fullBegin(int showing) {
        return showing / 4 * 30;
    }

    static int fullVote(int juror, int place) {
        return (2 * juror + place) % 20;
    }

    /** Something of everything, nothing as it is at first, room for more; a PRIZE with rounds, a FAULT, a TAPE. */
    static FilmWeeks rich() {
        FilmWeeks x = new FilmWeeks();
        x.hall(0, 30, 10, 3);
        x.hall(1, 200, 0, 15);
        x.hall(0, 90, 5, 1);
        for (int i = 0; i < 5; i++) {
            x.film(30 + i, i % 2, 50 + 10 * i);
        }
        x.way(0, 1, 40);
        x.guest(0, 0, 700);
        x.guest(1, 600, 1400);
        x.bar(1, 500, 3, 2);
        x.bar(3, 0, 1, NO_FILM);
        x.part(10, 150);
        x.part(11, 70);
        x.put(0, 0, 600, 1);
        x.put(0, 1, 680, 0);
        x.put(1, 0, 650, 0);
        x.put(2, 2, 690, 0);
        x.put(3, 1, 1330, 2);
        x.put(4, 0, 5000, 0);
        x.take(5);
        x.delay(0, 45);
        x.doors(2);
        x.come(0, -40, 20);
        x.come(2, 10, 9);
        x.hour(900);
        x.hour(1320);
        tellJury(x);
        return x;
    }

    private static final int NO_FILM = FilmWeeks.NONE;

    private static void tellJury(FilmWeeks x) {
        int[][] votes = {{0, 1, 2}, {1, 2}, {2, 0}, {}};
        for (int juror = 0; juror < votes.length; juror++) {
            x.juror(20 * juror);
            for (int film : votes[juror]) {
                x.vote(juror, film);
            }
        }
        x.row(0, 0, 0, 10);
        x.row(1, 1, 1, 20);
        Due.rules(x, "count saw or not kin;rounds;tie fame");
        x.prize(0);
        Due.rules(x, "count x");
        Due.feed(x, "count kin;points 1 2;tie ");
    }
}
