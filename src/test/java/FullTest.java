/**
 * What is full and what is empty (Terms I to IV: "at most"): the last that has room is taken and is of use, the next
 * one is refused, and nothing there is harmed by it.
 */
public final class FullTest {
    private static final int NONE = FilmWeeks.NONE;
    private static final Due due = new Due("FullTest");

    public static void main(String[] args) {
        halls();
        films();
        showings();
        showingsTakenOut();
        hours();
        changes();
        jurors();
        votes();
        rows();
        tape();
        points();
        nesting();
        longestText();
        allAtOnce();
        nothingToBetter();
        nothingToJudge();
        due.end();
    }

    /** Terms I: HALLS 0 .. 3 (4 at most). */
    private static void halls() {
        FilmWeeks x = new FilmWeeks();
        x.film(10, 3, 100);
        due.is("no HALL", x.why(0, 0, 0, 0), -2);
        for (int i = 0; i < 4; i++) {
            int hall = i;
            due.is("HALLS", x.count(0), i);
            due.is("not yet", x.why(0, i, 0, 0), -2);
            due.taken("hall", x, y -> y.hall(hall, 10 + hall, 0, 8), i);
            due.is("now", x.why(0, i, 0, 0), 0);
        }
        due.refused("a fifth HALL", x, y -> y.hall(4, 99, 0, 8), -5);
        due.is("HALLS", x.count(0), 4);
        due.is("no such HALL", x.why(0, 4, 0, 0), -2);
        due.is("the last HALL is of use", x.put(0, 3, 0, 0), 0);
        due.is("its own SEATS", x.of(0, 6), 13);
    }

    /** Terms I: FILMS 0 .. 19 (20 at most). */
    private static void films() {
        FilmWeeks x = new FilmWeeks();
        x.hall(0, 2000, 0, 15);
        for (int i = 0; i < 20; i++) {
            int film = i;
            due.is("FILMS", x.count(1), i);
            due.is("not yet", x.why(i, 0, 0, 0), -2);
            due.taken("film", x, y -> y.film(1 + film, film % 4, 100 + film), i);
            due.is("now", x.why(i, 0, 0, 0), 0);
        }
        due.refused("a FILM too many", x, y -> y.film(300, 0, 1000), -5);
        due.is("FILMS", x.count(1), 20);
        due.is("no such FILM", x.why(20, 0, 0, 0), -2);
        due.is("the last FILM is of use", x.put(19, 0, 0, 0), 0);
        due.is("its own MINUTES", x.of(0, 4), 20);
        due.is("its own FAME", x.of(0, 5), 119);
        due.is("the first FILM", x.put(0, 0, 20, 0), 1);
        due.is("its own MINUTES", x.of(1, 4), 21);
    }

    /** Terms I: SHOWINGS 0 .. 59 (60 at most ever). */
    private static void showings() {
        FilmWeeks x = new FilmWeeks();
        x.hall(0, 100, 0, 1);
        x.film(10, 0, 7);
        for (int i = 0; i < 60; i++) {
            due.is("put", x.put(0, 0, 10 * i, 0), i);
            due.is("showings that there are", x.count(2), i + 1);
            due.is("ever", x.count(3), i + 1);
        }
        due.refused("a showing too many", x, y -> y.put(0, 0, 9000, 0), -5);
        due.is("showings that there are", x.count(2), 60);
        due.is("ever", x.count(3), 60);
        due.is("no such showing", x.of(60, 0), NONE);
        due.is("GRID of all", x.grid(), 60 * 7);
        due.is("CROWD of the last", x.of(59, 5), 7);
        x.delay(0, 300);
        due.is("the last is late too", x.of(59, 7), 590 + 300);
        x.come(59, 10, 5);
        x.come(0, -40, 6);
        due.is("the QUEUE of the last", x.queue(59, 10, 2), 5);
        due.is("the QUEUE of the first", x.queue(0, 10, 2), 6);
        due.is("the last is in the way", x.why(0, 0, 599, 0), 3);
        due.is("the last is in the way", x.why(0, 0, 600, 0), 0);
        due.taken("take of the last", x, y -> y.take(59), 0);
        due.is("it is no more in the way", x.why(0, 0, 599, 0), 0);
    }

    /** Terms I: "taken out ones keep their numbers", so that they leave no room. */
    private static void showingsTakenOut() {
        FilmWeeks x = new FilmWeeks();
        x.hall(0, 100, 0, 1);
        x.film(10, 0, 7);
        for (int i = 0; i < 60; i++) {
            due.is("put, always at the same minute", x.put(0, 0, 500, 0), i);
            due.is("take", x.take(i), 0);
        }
        due.is("showings that there are", x.count(2), 0);
        due.is("ever", x.count(3), 60);
        due.is("nothing bars it", x.why(0, 0, 500, 0), 0);
        due.refused("but there is no room", x, y -> y.put(0, 0, 500, 0), -5);
        due.is("GRID of none", x.grid(), 0);
        x.hour(900);
        due.is("BETTER of none", x.better(), 0);
        for (int i = 0; i < 60; i += 59) {
            int showing = i;
            due.refused("it is out", x, y -> y.take(showing), -2);
            due.is("it is out", x.of(i, 2), NONE);
        }
    }

    /** Terms II: HOURS, 10 at most, as told. */
    private static void hours() {
        FilmWeeks x = new FilmWeeks();
        x.hall(0, 2000, 0, 1);
        x.film(10, 0, 50);
        x.put(0, 0, 600, 0);
        x.part(15, 200);
        x.part(16, 300);
        for (int i = 1; i <= 9; i++) {
            int many = i;
            due.taken("hour", x, y -> y.hour(600 + many), i);
        }
        due.taken("the tenth", x, y -> y.hour(900), 10);
        due.refused("an eleventh", x, y -> y.hour(960), -5);
        due.is("HOURS", x.count(6), 10);
        due.is("BETTER", x.better(), 1);
        due.is("by the tenth, not by the eleventh", x.of(0, 2), 900);
        due.is("HOURS are none then", x.count(6), 0);
        due.is("BETTER by none", x.better(), 0);
        due.taken("there is room again", x, y -> y.hour(960), 1);
        due.is("BETTER", x.better(), 1);
        due.is("by the new one", x.of(0, 2), 960);
        due.is("HOURS are none then", x.count(6), 0);
        x.hour(600);
        due.is("BETTER without a change", x.better(), 0);
        due.is("HOURS are none then too", x.count(6), 0);
    }

    /** Terms II: 40 changes at most. */
    private static void changes() {
        for (int many = 39; many <= 42; many++) {
            FilmWeeks x = new FilmWeeks();
            x.hall(0, 1, 0, 1);
            x.hall(1, 100, 0, 1);
            x.film(10, 0, 100);
            for (int i = 0; i < many; i++) {
                x.put(0, 0, 20 * i, 0);
            }
            int first = Math.min(many, 40);
            due.is("changes of " + many, x.better(), first);
            due.is("GRID", x.grid(), 100 * first + many - first);
            due.is("the rest by another call", x.better(), many - first);
            due.is("GRID", x.grid(), 100 * many);
            due.is("no more", x.better(), 0);
        }
    }

    /** Terms IV: jurors 0 .. 9 (10 at most). */
    private static void jurors() {
        FilmWeeks x = new FilmWeeks();
        x.film(1, 0, 0);
        x.film(1, 0, 0);
        Due.rules(x, "count old 109;rounds;tie film");
        for (int i = 0; i < 10; i++) {
            int juror = i;
            due.refused("not yet", x, y -> y.clear(juror), -2);
            due.taken("juror", x, y -> y.juror(101 + juror), i);
            due.is("jurors", x.count(4), i + 1);
            due.is("vote", x.vote(i, i == 9 ? 1 : 0), 1);
        }
        due.refused("an eleventh", x, y -> y.juror(120), -5);
        due.is("jurors", x.count(4), 10);
        due.refused("no such juror", x, y -> y.vote(10, 0), -2);
        due.is("the last juror's own AGE", x.counts(9, 1, 0), 1);
        due.is("the last but one's", x.counts(8, 0, 0), 1);
        due.is("the one ahead of it", x.counts(7, 0, 0), 0);
        x.clear(8);
        due.is("the last juror alone makes the PRIZE", x.prize(0), 1);
        Due.rules(x, "count old 0;points 1;tie film");
        due.is("the PRIZE of all", x.prize(0), 0);
        due.is("the last juror is among them", x.round(0, 1), 1);
        due.is("and so are the others", x.round(0, 0), 8);
    }

    /** Terms IV: VOTES: 5 at most, none twice. */
    private static void votes() {
        FilmWeeks x = new FilmWeeks();
        for (int i = 0; i < 7; i++) {
            x.film(1, 0, 0);
        }
        x.juror(50);
        x.juror(50);
        Due.rules(x, "count old 50;points 10 20 30 40 50;tie film");
        due.is("no VOTES: no PRIZE", x.prize(0), -6);
        for (int i = 0; i < 5; i++) {
            int film = i;
            due.is("not among them", x.counts(0, i, 0), 0);
            due.taken("vote", x, y -> y.vote(0, film), i + 1);
            due.refused("twice", x, y -> y.vote(0, film), -4);
            due.is("among them", x.counts(0, i, 0), 1);
        }
        due.refused("a sixth", x, y -> y.vote(0, 5), -5);
        due.refused("twice comes ahead", x, y -> y.vote(0, 0), -4);
        due.is("the sixth is not among them", x.counts(0, 5, 0), 0);
        due.is("PRIZE", x.prize(0), 4);
        due.is("the fifth is of use", x.round(0, 4), 50);
        due.is("the sixth is in no VOTES", x.round(0, 5), NONE);
        due.taken("the next juror has room", x, y -> y.vote(1, 6), 1);
        due.taken("clear", x, y -> y.clear(0), 5);
        due.taken("clear of none", x, y -> y.clear(0), 0);
        due.is("none is among them", x.counts(0, 4, 0), 0);
        due.taken("there is room again", x, y -> y.vote(0, 4), 1);
        due.is("the next juror's stay", x.counts(1, 6, 0), 1);
    }

    /** Terms IV: 100 ROWS of both at most. */
    private static void rows() {
        for (int sort = 0; sort < 2; sort++) {
            FilmWeeks x = new FilmWeeks();
            x.film(1, 0, 0);
            x.film(1, 0, 0);
            x.juror(0);
            x.vote(0, 0);
            x.vote(0, 1);
            Due.rules(x, sort == 0 ? "count saw;rounds;tie film" : "count kin;rounds;tie film");
            for (int i = 1; i <= 99; i++) {
                due.is("row", x.row(1 - sort, 0, 1, 0), i);
            }
            int last = sort;
            due.is("not yet", x.counts(0, 0, 100000), 0);
            due.taken("the hundredth", x, y -> y.row(last, 0, 0, 100000), 100);
            due.refused("one more", x, y -> y.row(last, 0, 1, 0), -5);
            due.refused("one more of the other sort", x, y -> y.row(1 - last, 0, 1, 0), -5);
            due.is("ROWS", x.count(5), 100);
            due.is("the hundredth is of use", x.counts(0, 0, 100000), 1);
            due.is("not before it is known", x.counts(0, 0, 99999), 0);
            due.is("the one more is not", x.counts(0, 1, 100000), 0);
        }
    }

    /** Promise 23: NONE, if there would be more than 300; Promise 24. */
    private static void tape() {
        String text = "count saw;rounds;tie film";
        FilmWeeks x = new FilmWeeks();
        Due.feed(x, " ".repeat(280));
        due.asked("feed from 280 and back", x, y -> y.feed(0, 0, 0, 0, 0) == 300 ? y.end(280) : NONE, 280);
        Due.feed(x, text.substring(0, 1));
        due.asked("feed from 281", x, y -> y.feed(0, 0, 0, 0, 0), NONE);
        due.is("bytes", x.count(7), 281);
        due.is("what was refused is not on it", x.end(282), NONE);
        due.asked("end at all of it", x, y -> y.end(281), 281);
        due.asked("end below 0", x, y -> y.end(-1), NONE);
        due.is("bytes", x.count(7), 281);
        due.asked("end at 0", x, y -> y.end(0), 0);
        due.asked("end of an empty one beyond", x, y -> y.end(1), NONE);
        Due.feed(x, text + "x".repeat(275));
        due.is("300 bytes", x.count(7), 300);
        due.asked("no more than 300", x, y -> y.feed(0, 0, 0, 0, 0), NONE);
        due.is("the first 25 alone", x.end(25), 25);
        due.is("bytes", x.count(7), 25);
        due.taken("they are RULES", x, y -> y.rules(), 0);
        due.is("the TAPE is empty then", x.count(7), 0);
        due.is("nothing of it is left", x.end(1), NONE);
        due.refused("RULES of an empty one", x, y -> y.rules(), -6);
        due.asked("its FAULT", x, y -> y.fault(), 0);
    }

    /** Terms IV: at most 5 NUMBERS of points, NUMBERS to 1000. */
    private static void points() {
        for (int many = 0; many <= 7; many++) {
            StringBuilder text = new StringBuilder("count saw;points");
            for (int i = 0; i < many; i++) {
                text.append(" 9");
            }
            FilmWeeks x = new FilmWeeks();
            boolean good = many >= 1 && many <= 5;
            due.is(many + " NUMBERS", Due.rules(x, text + ";tie film"), good ? 0 : -6);
            due.is("NUMBERS", x.count(8), good ? many : NONE);
            due.is("FAULT", x.fault(), good ? NONE : many == 0 ? 16 : 17 + 2 * 5);
        }
        String[] numbers = {"0", "1", "999", "1000", "01000", "0000000000000000000000000000001", "1001", "1010", "2000",
            "9999", "10000", "65536", "2147483648", "4294967296", "4294967301", "18446744073709551616",
            "18446744073709551621", "340282366920938463463374607431768211457"};
        for (int i = 0; i < numbers.length; i++) {
            boolean good = i < 6;
            FilmWeeks x = new FilmWeeks();
            due.is("points " + numbers[i], Due.rules(x, "count saw;points " + numbers[i] + ";tie film"), good ? 0 : -6);
            due.is("FAULT", x.fault(), good ? NONE : 17);
            FilmWeeks y = new FilmWeeks();
            due.is("old " + numbers[i], Due.rules(y, "count old " + numbers[i] + ";rounds;tie film"), good ? 0 : -6);
            due.is("FAULT", y.fault(), good ? NONE : 10);
        }
    }

    /** Terms IV: at most 8 "(" and "not" within one another, in every mixture of both. */
    private static void nesting() {
        for (int mixture = 0; mixture < 512; mixture++) {
            StringBuilder open = new StringBuilder("count ");
            StringBuilder shut = new StringBuilder();
            for (int i = 0; i < 8; i++) {
                boolean not = (mixture >> i & 1) == 1;
                open.append(not ? "not " : "(");
                shut.append(not ? "" : ")");
            }
            String tail = shut + ";rounds;tie film";
            FilmWeeks x = new FilmWeeks();
            due.is("eight of mixture " + mixture, Due.rules(x, open + "saw" + tail), 0);
            due.is("no FAULT", x.fault(), NONE);
            String ninth = mixture >= 256 ? "not saw" : "(saw)";
            due.is("nine of mixture " + mixture, Due.rules(x, open + ninth + tail), -6);
            due.is("FAULT at the ninth", x.fault(), open.length());
            String beside = ninth.replace("saw", "kin") + " and ";
            due.is("beside is not within", Due.rules(x, "count " + beside + open.substring(6) + "saw" + tail), 0);
        }
    }

    /** Terms IV: a TEXT of at most 300 bytes, with a COND that fills it. */
    private static void longestText() {
        for (int last = 0; last < 2; last++) {
            StringBuilder cond = new StringBuilder("kin");
            for (int i = 0; i < 30; i++) {
                cond.append(" or kin");
            }
            cond.append(" or not not not not not saw and old 120 or not not old 121");
            String text = "count " + cond + ";points 7;tie film";
            text = text + " ".repeat(300 - text.length() - last) + (last == 1 ? "x" : "");
            FilmWeeks x = new FilmWeeks();
            x.film(1, 0, 0);
            x.juror(120);
            x.vote(0, 0);
            due.is("300 bytes", Due.rules(x, text), last == 0 ? 0 : -6);
            due.is("FAULT", x.fault(), last == 0 ? NONE : 299);
            if (last == 0) {
                due.is("COND holds", x.counts(0, 0, 0), 1);
                x.row(0, 0, 0, 1);
                due.is("COND holds no more", x.counts(0, 0, 1), 0);
                x.row(1, 0, 0, 2);
                due.is("COND holds again", x.counts(0, 0, 2), 1);
            }
        }
    }

    private static void allAtOnce() {
        FilmWeeks x = Office.full();
        int[] want = {4, 20, 60, 60, 10, 100, 10, 300, 2};
        for (int what = 0; what < want.length; what++) {
            due.is("count(" + what + ") of a full object", x.count(what), want[what]);
        }
        int grid = 0;
        for (int i = 0; i < 60; i++) {
            int crowd = 10 * (i % 20) / 2;
            due.is("CROWD of showing " + i, x.of(i, 5), crowd);
            grid += Math.min(crowd, 20 + i % 4);
        }
        due.is("GRID", x.grid(), grid);
        int sum = 0;
        for (int juror = 0; juror < 10; juror++) {
            sum += Office.fullVote(juror, 0) == 18 ? 3 : Office.fullVote(juror, 1) == 18 ? 1 : 0;
        }
        due.is("PRIZE", x.prize(0), 0);
        due.is("the sum of the last juror's first", x.round(0, 18), sum);
        due.holds("BETTER makes changes", x.better() > 0);
        due.holds("GRID is greater", x.grid() > grid);
    }

    private static void nothingToBetter() {
        FilmWeeks x = new FilmWeeks();
        due.asked("GRID of nothing", x, y -> y.grid(), 0);
        due.asked("BETTER of nothing", x, y -> y.better(), 0);
        x.hour(5);
        due.asked("BETTER of nothing", x, y -> y.better(), 0);
        due.is("HOURS are none then", x.count(6), 0);
        x.hall(0, 1, 0, 1);
        x.film(1, 0, 0);
        x.put(0, 0, 0, 0);
        x.hour(5);
        due.asked("a showing worth nothing stays", x, y -> y.better(), 0);
        due.is("where it was", x.of(0, 2), 0);
    }

    /** Terms IV: "No FILM COUNTS: no PRIZE, no ROUNDS". */
    private static void nothingToJudge() {
        String[] manners = {"points 5", "rounds"};
        for (String manner : manners) {
            FilmWeeks x = new FilmWeeks();
            Due.rules(x, "count saw;" + manner + ";tie first");
            due.asked("no prize() yet", x, y -> y.round(NONE, 0), NONE);
            due.refused("no jurors, no FILMS", x, y -> y.prize(0), -6);
            due.asked("no ROUNDS", x, y -> y.round(NONE, 0), 0);
            x.film(1, 0, 0);
            x.juror(0);
            x.row(0, 0, 0, 5);
            due.refused("no VOTES", x, y -> y.prize(5), -6);
            x.vote(0, 0);
            due.refused("none that COUNT yet", x, y -> y.prize(4), -6);
            due.asked("no ROUNDS", x, y -> y.round(NONE, 0), 0);
            due.asked("no sums", x, y -> y.round(0, 0), NONE);
            due.taken("one COUNTS", x, y -> y.prize(5), 0);
            due.asked("one ROUND", x, y -> y.round(NONE, 0), 1);
            x.clear(0);
            due.refused("no VOTES again", x, y -> y.prize(5), -6);
            due.asked("no ROUNDS again", x, y -> y.round(NONE, 0), 0);
        }
    }
}
