/** Both sides of each limit in time, worth and number that Terms I to III name: WHY, CROWD, BETTER, QUEUE, TRUE times. */
public final class EdgeTest {
    private static final int NONE = FilmWeeks.NONE;
    private static final Due due = new Due("EdgeTest");

    public static void main(String[] args) {
        lastMinute();
        formats();
        hallIsClear();
        printTravels();
        printIsAnywhere();
        guestFromBeginningToEnd();
        lateRoundMidnight();
        notBefore();
        atMost();
        besideForAMinute();
        toldLaterStays();
        partOfTheHour();
        crowdAtMostSeats();
        besideInTown();
        betterMustBeGreater();
        betterPrefers();
        betterOverItself();
        betterFreesTheOther();
        betterSharesWithTwo();
        comersByMinute();
        doorsMinutes();
        seatsAndDoors();
        lateByHall();
        latePastAllMinutes();
        due.end();
    }

    /** HALLS 0 and 1 in town 0, HALL 2 in town 1, with these minutes to CLEAR; one FILM of so many minutes. */
    private static FilmWeeks office(int clear, int minutes) {
        FilmWeeks x = new FilmWeeks();
        x.hall(0, 2000, clear, 1);
        x.hall(0, 2000, clear, 1);
        x.hall(1, 2000, clear, 1);
        x.film(minutes, 0, 100);
        return x;
    }

    /** WHY 1: it ends behind 14400. */
    private static void lastMinute() {
        for (int minutes : new int[] {1, 2, 299, 300}) {
            int last = 14400 - minutes;
            FilmWeeks x = office(120, minutes);
            due.asked("ends at 14400", x, y -> y.why(0, 0, last, 0), 0);
            due.asked("ends at 14401", x, y -> y.why(0, 0, last + 1, 0), minutes == 1 ? -1 : 1);
            due.taken("ends at 14400", x, y -> y.put(0, 0, last, 0), 0);
            due.is("END", x.of(0, 4), 14400);
            due.is("TRUE END", x.of(0, 8), 14400);
        }
    }

    /** WHY 2: each FORMAT with each of the FORMATS. */
    private static void formats() {
        for (int formats = 1; formats <= 15; formats++) {
            for (int format = 0; format <= 3; format++) {
                FilmWeeks x = new FilmWeeks();
                x.hall(0, 1, 0, formats);
                x.film(1, format, 0);
                boolean fits = (formats & 1 << format) != 0;
                due.is("FORMAT " + format + " of " + formats, x.why(0, 0, 0, 0), fits ? 0 : 2);
            }
        }
    }

    /** WHY 3: at each side END and CLEAR, with the least and the most to CLEAR. */
    private static void hallIsClear() {
        for (int clear : new int[] {0, 1, 120}) {
            FilmWeeks x = office(clear, 100);
            x.film(30, 0, 0);
            x.put(0, 0, 5000, 0);
            due.is("a minute too early behind", x.why(1, 0, 5099 + clear, 0), 3);
            due.is("behind", x.why(1, 0, 5100 + clear, 0), 0);
            due.is("a minute too late ahead", x.why(1, 0, 4971 - clear, 0), 3);
            due.is("ahead", x.why(1, 0, 4970 - clear, 0), 0);
            due.is("at once", x.why(1, 0, 5000, 0), 3);
            due.is("at once elsewhere", x.why(1, 1, 5000, 0), 0);
            x.put(1, 0, 5100 + clear, 0);
            x.put(1, 0, 4970 - clear, 0);
            due.is("both are there", x.count(2), 3);
            x.take(0);
            due.is("the room between is full from side to side", x.why(0, 0, 5000, 0), 0);
            due.is("a minute aside", x.why(0, 0, 4999, 0), 3);
            due.is("a minute aside", x.why(0, 0, 5001, 0), 3);
        }
    }

    /** WHY 4: END and the WAY, with the least and the most of it; none alike. */
    private static void printTravels() {
        for (int way : new int[] {0, 1, 2000}) {
            FilmWeeks x = office(0, 50);
            x.way(1, 0, way);
            x.put(0, 0, 5000, 0);
            due.is("a minute too early behind", x.why(0, 2, 5049 + way, 0), 4);
            due.is("behind", x.why(0, 2, 5050 + way, 0), 0);
            due.is("a minute too late ahead", x.why(0, 2, 4951 - way, 0), 4);
            due.is("ahead", x.why(0, 2, 4950 - way, 0), 0);
            due.is("alike", x.why(0, 2, 5000, 0), 4);
            due.is("alike in its TOWN", x.why(0, 1, 5000, 0), 4);
            due.is("no WAY in its TOWN, behind", x.why(0, 1, 5050, 0), 0);
            due.is("a minute too early", x.why(0, 1, 5049, 0), 4);
            due.is("no WAY in its TOWN, ahead", x.why(0, 1, 4950, 0), 0);
            due.is("a minute too late", x.why(0, 1, 4951, 0), 4);
        }
    }

    /** "It is anywhere ahead of its first showing and behind its last one"; between two it has both WAYS to go. */
    private static void printIsAnywhere() {
        FilmWeeks x = office(0, 50);
        x.way(0, 1, 2000);
        due.is("at the first minute", x.why(0, 2, 0, 0), 0);
        x.put(0, 0, 0, 0);
        due.is("to the other TOWN and there", x.put(0, 2, 2050, 0), 1);
        due.is("to the last minute there", x.why(0, 2, 14350, 0), 0);
        due.is("and back", x.why(0, 0, 4099, 0), 4);
        due.is("and back", x.why(0, 0, 4100, 0), 0);
        due.is("not between", x.why(0, 0, 51, 0), 4);
        x.take(0);
        due.is("now it is anywhere ahead", x.why(0, 0, 0, 0), 0);
        due.is("but for the WAY", x.why(0, 0, 1, 0), 4);
    }

    /** WHY 5: from beginning to END, which is the first minute behind it. */
    private static void guestFromBeginningToEnd() {
        int[][] guests = {{1000, 1050, 0}, {1001, 1050, 5}, {1000, 1049, 5}, {0, 14399, 0}, {1000, 1000, 5},
            {1050, 1050, 5}, {999, 1051, 0}, {0, 999, 5}, {1051, 14399, 5}};
        for (int[] g : guests) {
            FilmWeeks x = office(0, 50);
            due.is("without a GUEST", x.why(0, 0, 1000, 1), 5);
            x.guest(0, g[0], g[1]);
            due.is("GUEST from " + g[0] + " to " + g[1], x.why(0, 0, 1000, 1), g[2]);
            due.is("a plain one needs none", x.why(0, 0, 1000, 0), 0);
            x.guest(0, NONE, NONE);
            due.is("none again", x.why(0, 0, 1000, 1), 5);
        }
        FilmWeeks x = office(0, 1);
        x.guest(0, 0, 1);
        due.is("at the first minute", x.why(0, 0, 0, 1), 0);
        due.is("at the next", x.why(0, 0, 1, 1), 5);
        x.guest(0, 14398, 14399);
        due.is("to the last minute", x.why(0, 0, 14398, 1), 0);
        due.is("no GUEST is there at 14400", x.why(0, 0, 14399, 1), 5);
    }

    /** WHY 6: minutes 1320 .. 1439 of a day, or ahead of 120; the day wraps around. */
    private static void lateRoundMidnight() {
        FilmWeeks x = office(0, 1);
        int[] minutes = {0, 1, 119, 120, 121, 720, 1319, 1320, 1321, 1438, 1439};
        for (int day = 0; day < 10; day++) {
            for (int minute : minutes) {
                boolean late = minute >= 1320 || minute < 120;
                due.is("LATE in minute " + minute + " of day " + day, x.why(0, 0, 1440 * day + minute, 2), late ? 0 : 6);
            }
        }
        due.is("others may begin at any hour", x.why(0, 0, 720, 0), 0);
    }

    /** WHY 7, BARS: not before (0: without). */
    private static void notBefore() {
        for (int before : new int[] {0, 1, 700, 14399}) {
            FilmWeeks x = office(0, 1);
            x.bar(0, before, 60, NONE);
            due.is("at the minute", x.why(0, 0, before, 0), 0);
            due.is("behind it", x.why(0, 0, 14399, 0), 0);
            due.is("before it", x.why(0, 0, Math.max(before - 1, 0), 0), before == 0 ? 0 : 7);
            x.bar(0, 0, 60, NONE);
            due.is("without", x.why(0, 0, 0, 0), 0);
        }
    }

    /** WHY 8, BARS: at most (60: without). */
    private static void atMost() {
        for (int most : new int[] {0, 1, 2, 58, 59}) {
            FilmWeeks x = office(0, 1);
            x.film(1, 0, 0);
            x.bar(0, 0, most, NONE);
            x.put(1, 1, 0, 0);
            for (int i = 0; i < most; i++) {
                due.is("put", x.put(0, 0, i, 0), i + 1);
            }
            due.is("at most " + most, x.why(0, 0, 9000, 0), 8);
            due.refused("at most " + most, x, y -> y.put(0, 0, 9000, 0), -3);
            due.is("another FILM's are not barred", x.why(1, 0, 9000, 0), 0);
            x.bar(0, 0, most + 1, NONE);
            due.is("at most one more", x.why(0, 0, 9000, 0), 0);
            x.bar(0, 0, most, NONE);
            if (most > 0) {
                x.take(1);
                due.is("one is taken out", x.why(0, 0, 9000, 0), 0);
            }
        }
    }

    /** WHY 9, BARS: either FILM's, at once for a minute, in one TOWN. */
    private static void besideForAMinute() {
        for (int barred = 0; barred < 2; barred++) {
            FilmWeeks x = office(120, 50);
            x.film(30, 0, 0);
            x.put(0, 0, 1000, 0);
            x.bar(barred, 0, 60, 1 - barred);
            due.is("the last minute of it", x.why(1, 1, 1049, 0), 9);
            due.is("at its END", x.why(1, 1, 1050, 0), 0);
            due.is("its first minute", x.why(1, 1, 971, 0), 9);
            due.is("to its beginning", x.why(1, 1, 970, 0), 0);
            due.is("in another TOWN", x.why(1, 2, 1000, 0), 0);
            x.take(0);
            due.is("taken out", x.why(1, 1, 1000, 0), 0);
        }
    }

    /** Promises 5 and 6: "Showings that there are stay", and so they do for a longer WAY. */
    private static void toldLaterStays() {
        FilmWeeks x = office(0, 50);
        x.film(50, 0, 100);
        x.guest(0, 1000, 1050);
        x.put(0, 0, 1000, 1);
        x.put(0, 2, 1050, 0);
        x.put(1, 1, 1000, 0);
        x.guest(0, NONE, NONE);
        x.bar(0, 9000, 0, 1);
        x.way(0, 1, 500);
        due.is("showings that there are", x.count(2), 3);
        due.is("where it was", x.of(0, 2), 1000);
        due.is("FIRST", x.of(0, 3), 1);
        due.is("GRID", x.grid(), 50 + 100 + 50);
        due.is("the WAY makes it late", x.of(1, 7), 1550);
        due.is("but not as told", x.of(1, 2), 1050);
        x.hour(1200);
        due.is("BETTER can't move what is barred now", x.better(), 1);
        due.is("it moves the other", x.of(2, 2), 1200);
    }

    /** Terms II: by the hour (minute of the day / 60) at which it begins. */
    private static void partOfTheHour() {
        for (int day = 0; day < 10; day += 9) {
            FilmWeeks x = office(0, 1);
            for (int hour = 0; hour < 24; hour++) {
                x.part(hour, 100 + hour);
                x.put(0, 0, 1440 * day + 60 * hour, 0);
                x.put(0, 1, 1440 * day + 60 * hour + 59, 0);
            }
            for (int hour = 0; hour < 24; hour++) {
                due.is("CROWD at the first minute of hour " + hour, x.of(2 * hour, 5), 100 + hour);
                due.is("CROWD at the last minute of hour " + hour, x.of(2 * hour + 1, 5), 100 + hour);
            }
        }
        int[][] cut = {{0, 300, 0}, {1000, 300, 3000}, {1, 99, 0}, {1, 100, 1}, {1, 199, 1}, {1, 200, 2}, {1000, 0, 0},
            {999, 1, 9}, {1000, 1, 10}};
        for (int[] c : cut) {
            FilmWeeks x = new FilmWeeks();
            x.hall(0, 2000, 0, 1);
            x.film(1, 0, c[0]);
            x.part(0, c[1]);
            x.put(0, 0, 0, 0);
            due.is("CROWD of FAME " + c[0] + " by PART " + c[1], x.of(0, 5), c[2]);
            due.is("WORTH", x.of(0, 6), Math.min(c[2], 2000));
            due.is("GRID", x.grid(), Math.min(c[2], 2000));
        }
    }

    /** Terms II: WORTH: CROWD, at most SEATS. */
    private static void crowdAtMostSeats() {
        for (int seats : new int[] {1, 99, 100, 101, 2000}) {
            FilmWeeks x = new FilmWeeks();
            x.hall(0, seats, 0, 1);
            x.film(1, 0, 100);
            x.put(0, 0, 0, 0);
            due.is("CROWD", x.of(0, 5), 100);
            due.is("WORTH with SEATS " + seats, x.of(0, 6), Math.min(seats, 100));
        }
    }

    /** Terms II: those that begin ahead of its END and end behind its beginning, in its TOWN; CLEAR is no running. */
    private static void besideInTown() {
        int[][] others = {{949, 100}, {950, 100}, {951, 50}, {1000, 50}, {1049, 50}, {1050, 100}, {1051, 100}};
        for (int[] o : others) {
            FilmWeeks x = office(120, 50);
            x.film(50, 0, 100);
            x.put(0, 0, 1000, 0);
            x.put(1, 1, o[0], 0);
            due.is("CROWD beside one at " + o[0], x.of(0, 5), o[1]);
            due.is("CROWD of the other", x.of(1, 5), o[1]);
            FilmWeeks y = office(120, 50);
            y.film(50, 0, 100);
            y.put(0, 0, 1000, 0);
            y.put(1, 2, o[0], 0);
            due.is("in another TOWN", y.of(0, 5), 100);
        }
        for (int many = 1; many <= 4; many++) {
            FilmWeeks x = new FilmWeeks();
            for (int i = 0; i < many; i++) {
                x.hall(3, 2000, 0, 1);
                x.film(10, 0, 101);
                x.put(i, i, 500, 0);
            }
            due.is("CROWD of " + many + " at once, cut", x.of(0, 5), 101 / many);
            due.is("GRID", x.grid(), 101 / many * many);
        }
    }

    /** Terms II: a change is made if it makes GRID greater, be it by one. */
    private static void betterMustBeGreater() {
        for (int part = 99; part <= 101; part++) {
            FilmWeeks x = office(0, 10);
            x.put(0, 0, 600, 0);
            x.part(20, part);
            x.hour(1200);
            due.is("BETTER with PART " + part, x.better(), part > 100 ? 1 : 0);
            due.is("its beginning", x.of(0, 2), part > 100 ? 1200 : 600);
            due.is("its HALL", x.of(0, 1), 0);
            due.is("GRID", x.grid(), Math.max(part, 100));
        }
    }

    /** Terms II: of those alike the lower showing, then HALL, then the HOUR told first, its own beginning last. */
    private static void betterPrefers() {
        FilmWeeks x = new FilmWeeks();
        x.hall(0, 10, 0, 1);
        x.hall(1, 20, 0, 1);
        x.hall(2, 20, 0, 1);
        x.film(10, 0, 100);
        x.put(0, 0, 600, 0);
        x.hour(700);
        x.hour(650);
        due.is("BETTER", x.better(), 1);
        due.is("the lower HALL", x.of(0, 1), 1);
        due.is("the HOUR told first, not its own beginning", x.of(0, 2), 700);

        FilmWeeks y = new FilmWeeks();
        y.hall(0, 10, 0, 1);
        y.hall(1, 20, 0, 1);
        y.film(10, 0, 100);
        y.film(10, 0, 100);
        y.put(0, 0, 600, 0);
        y.put(1, 0, 500, 0);
        y.part(8, 10);
        y.hour(600);
        due.is("either could go, one alone", y.better(), 1);
        due.is("the lower showing has gone", y.of(0, 1), 1);
        due.is("the other has not", y.of(1, 1), 0);
        due.is("GRID", y.grid(), 20 + 10);

        FilmWeeks z = new FilmWeeks();
        z.hall(0, 10, 0, 1);
        z.hall(1, 20, 0, 1);
        z.film(10, 0, 100);
        z.film(10, 0, 101);
        z.put(0, 0, 600, 0);
        z.put(1, 0, 700, 0);
        z.hour(9000);
        due.is("both go, one after the other", z.better(), 2);
        due.is("the lower showing first: the HOUR was free", z.of(0, 2), 9000);
        due.is("the other as it began: the HOUR was taken", z.of(1, 2), 700);
    }

    /** WHY 0, itself taken out: neither its own HALL, its PRINT nor at most bar it. */
    private static void betterOverItself() {
        FilmWeeks x = office(120, 300);
        x.bar(0, 0, 1, NONE);
        x.put(0, 0, 600, 0);
        x.part(11, 200);
        x.hour(660);
        due.is("a second one can't be", x.why(0, 0, 660, 0), 3);
        due.is("but it may be moved", x.better(), 1);
        due.is("by an hour", x.of(0, 2), 660);
        due.is("in its HALL", x.of(0, 1), 0);
        x.part(12, 300);
        x.hour(720);
        x.bar(0, 0, 0, NONE);
        due.is("at most 0 bars it", x.better(), 0);
        x.hour(14100);
        x.part(19, 300);
        x.bar(0, 0, 1, NONE);
        due.is("to the last minute that can be", x.better(), 1);
        due.is("END", x.of(0, 4), 14400);
        x.part(19, 100);
        x.part(20, 300);
        x.hour(14101);
        due.is("a minute more can't be", x.better(), 0);
    }

    /** GRID is what must be greater: a showing gives its own WORTH away, if that one beside it gains more. */
    private static void betterFreesTheOther() {
        int[][] fames = {{100, 102, 1}, {100, 101, 1}, {100, 100, 0}, {100, 99, 0}, {1, 1000, 1}};
        for (int[] f : fames) {
            FilmWeeks x = new FilmWeeks();
            x.hall(0, 2000, 0, 1);
            x.hall(0, 2000, 0, 2);
            x.film(10, 0, f[0]);
            x.film(10, 1, f[1]);
            x.put(0, 0, 600, 0);
            x.put(1, 1, 600, 0);
            x.bar(1, 0, 0, NONE);
            x.part(20, 0);
            x.hour(1200);
            String what = " of FAMES " + f[0] + ", " + f[1];
            due.is("GRID" + what, x.grid(), f[0] / 2 + f[1] / 2);
            due.is("BETTER" + what, x.better(), f[2]);
            due.is("GRID" + what, x.grid(), f[2] == 1 ? f[1] : f[0] / 2 + f[1] / 2);
        }
    }

    /** The third in a town takes from both that run there: 333 of each is less than 500 of two and what it had. */
    private static void betterSharesWithTwo() {
        FilmWeeks x = new FilmWeeks();
        x.hall(0, 1, 0, 1);
        x.hall(1, 2000, 0, 1);
        x.hall(1, 2000, 0, 1);
        x.hall(1, 2000, 0, 1);
        for (int film = 0; film < 3; film++) {
            x.film(10, 0, 1000);
            x.put(film, film, 600, 0);
        }
        due.is("GRID", x.grid(), 1 + 500 + 500);
        due.is("it stays alone", x.better(), 0);
        due.is("in its HALL", x.of(0, 1), 0);
        FilmWeeks y = new FilmWeeks();
        y.hall(0, 1, 0, 1);
        y.hall(1, 333, 0, 1);
        y.hall(1, 333, 0, 1);
        y.hall(1, 333, 0, 1);
        for (int film = 0; film < 3; film++) {
            y.film(10, 0, 1000);
            y.put(film, film, 600, 0);
        }
        due.is("GRID with few SEATS", y.grid(), 1 + 333 + 333);
        due.is("it takes nothing from them", y.better(), 1);
        due.is("GRID", y.grid(), 999);
    }

    /** Terms III: 51 numbers, told by minute; each showing has its own. */
    private static void comersByMinute() {
        FilmWeeks x = office(0, 1);
        x.put(0, 0, 600, 0);
        x.put(0, 0, 601, 0);
        x.put(0, 0, 602, 0);
        int sum = 0;
        for (int m = -40; m <= 10; m++) {
            x.come(1, m, 41 + m);
        }
        for (int m = -40; m <= 10; m++) {
            sum += 41 + m;
            due.is("have come by minute " + m, x.queue(1, m, 2), sum);
        }
        due.is("none comes behind minute 10", x.queue(1, 400, 2), sum);
        due.is("none to the one told ahead", x.queue(0, 400, 2), 0);
        due.is("none to the one told behind", x.queue(2, 400, 2), 0);
        x.come(1, 10, 0);
        x.come(1, -40, 1000);
        due.is("told anew", x.queue(1, 10, 2), sum - 51 - 1 + 1000);
    }

    /** Terms III: from 30 ahead of its TRUE beginning on, to 10 behind it. */
    private static void doorsMinutes() {
        for (int late : new int[] {0, 1, 40, 41, 300}) {
            FilmWeeks x = office(0, 100);
            x.film(100, 0, 0);
            x.put(0, 0, 1000, 0);
            x.put(1, 0, 1100, 0);
            x.delay(0, late);
            x.come(1, -40, 100);
            x.come(1, 10, 2);
            x.doors(1);
            due.is("TRUE beginning", x.of(1, 7), 1100 + late);
            due.is("shut, late by " + late, x.queue(1, late - 31, 0), 0);
            due.is("open", x.queue(1, late - 30, 0), 1);
            due.is("the last minute but one", x.queue(1, late + 9, 0), 40);
            due.is("the last minute", x.queue(1, late + 10, 0), 41);
            due.is("shut", x.queue(1, late + 11, 0), 41);
            due.is("outside", x.queue(1, 400, 1), 102 - 41);
        }
    }

    /** Terms III: as many as DOORS let, as there are, as SEATS are left. */
    private static void seatsAndDoors() {
        int[][] cases = {{10, 9, 8, 8}, {9, 10, 8, 8}, {8, 9, 10, 8}, {8, 8, 8, 8}, {500, 1000, 2000, 500}, {1, 1000, 2000, 1},
            {500, 1000, 1, 1}, {500, 0, 1, 0}, {499, 500, 500, 499}, {500, 499, 500, 499}, {500, 500, 499, 499}};
        for (int[] c : cases) {
            FilmWeeks x = new FilmWeeks();
            x.hall(0, c[2], 0, 1);
            x.film(1, 0, 0);
            x.put(0, 0, 600, 0);
            x.doors(c[0]);
            x.come(0, -30, c[1]);
            String what = " of DOORS " + c[0] + ", people " + c[1] + ", SEATS " + c[2];
            due.is("in" + what, x.queue(0, -30, 0), c[3]);
            due.is("outside" + what, x.queue(0, -30, 1), c[1] - c[3]);
            due.is("have come" + what, x.queue(0, -30, 2), c[1]);
            int last = Math.min(Math.min(c[1], c[2]), 41 * c[0]);
            due.is("in at last" + what, x.queue(0, 400, 0), last);
            due.is("outside at last" + what, x.queue(0, 400, 1), c[1] - last);
        }
    }

    /** TRUE beginning: its own, but not ahead of the TRUE END and CLEAR of the one ahead in its HALL. */
    private static void lateByHall() {
        FilmWeeks x = office(10, 50);
        x.film(50, 0, 0);
        x.put(0, 0, 1000, 0);
        x.put(1, 0, 1080, 0);
        int[][] delays = {{0, 1080}, {19, 1080}, {20, 1080}, {21, 1081}, {300, 1360}};
        for (int[] d : delays) {
            x.delay(0, d[0]);
            due.is("TRUE beginning behind DELAY " + d[0], x.of(1, 7), d[1]);
            due.is("TRUE END", x.of(1, 8), d[1] + 50);
            due.is("the one ahead begins as told", x.of(0, 7), 1000);
        }
        x.delay(0, 0);
        x.delay(1, 300);
        due.is("one behind makes none late", x.of(0, 8), 1050);
        due.is("its own DELAY is at its end", x.of(1, 7), 1080);
        due.is("its own DELAY is at its end", x.of(1, 8), 1430);
    }

    /** TRUE times go on behind minute 14399, and so late that no minute of the QUEUE sees the DOORS. */
    private static void latePastAllMinutes() {
        FilmWeeks x = office(0, 100);
        x.film(100, 0, 0);
        x.film(100, 0, 0);
        x.put(0, 0, 14100, 0);
        x.put(1, 0, 14200, 0);
        x.put(2, 0, 14300, 0);
        x.come(2, -40, 3);
        x.delay(0, 300);
        x.delay(1, 130);
        due.is("TRUE beginning", x.of(2, 7), 14730);
        due.is("TRUE END", x.of(2, 8), 14830);
        due.is("DOORS are shut a minute ahead", x.queue(2, 399, 0), 0);
        due.is("they open in the last minute that is told", x.queue(2, 400, 0), 3);
        x.delay(1, 131);
        due.is("they open behind it", x.queue(2, 400, 0), 0);
        due.is("all stand outside", x.queue(2, 400, 1), 3);
        x.delay(1, 300);
        x.delay(2, 300);
        due.is("TRUE END, all late", x.of(2, 8), 14100 + 3 * 400);
    }
}
