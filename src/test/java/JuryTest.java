/** Promises 19 to 22 and 27 to 29: juror, vote, clear, row, counts, prize, round. */
public final class JuryTest {
    private static final int NONE = FilmWeeks.NONE;
    private static final Due due = new Due("JuryTest");

    public static void main(String[] args) {
        jurors();
        votes();
        rows();
        counts();
        conditions();
        points();
        pointTies();
        rounds();
        roundTies();
        halfIsNotEnough();
        votesRunOut();
        latestPrize();
        due.end();
    }

    /** Jurors of age 50, films with the fames told. */
    private static FilmWeeks office(int jurors, int... fames) {
        FilmWeeks x = new FilmWeeks();
        for (int fame : fames) {
            x.film(10, 0, fame);
        }
        for (int i = 0; i < jurors; i++) {
            x.juror(50);
        }
        return x;
    }

    private static void votes(FilmWeeks x, int juror, int... films) {
        for (int film : films) {
            x.vote(juror, film);
        }
    }

    private static void jurors() {
        FilmWeeks x = new FilmWeeks();
        due.is("wrong", x.juror(-1), -1);
        due.is("wrong", x.juror(121), -1);
        for (int i = 0; i < 10; i++) {
            due.is("juror", x.juror(i == 0 ? 0 : 120), i);
        }
        due.is("no room", x.juror(50), -5);
        due.is("wrong ahead of no room", x.juror(121), -1);
        due.is("count(4)", x.count(4), 10);
    }

    private static void votes() {
        FilmWeeks x = office(2, 1, 1, 1, 1, 1, 1, 1);
        due.is("no juror", x.vote(2, 0), -2);
        due.is("no juror", x.vote(-1, 0), -2);
        due.is("no film", x.vote(0, 7), -2);
        due.is("no film", x.vote(0, -1), -2);
        for (int i = 0; i < 5; i++) {
            due.is("vote", x.vote(0, i), i + 1);
        }
        due.is("no room", x.vote(0, 5), -5);
        due.is("twice comes ahead of no room", x.vote(0, 4), -4);
        due.is("no film comes ahead of no room", x.vote(0, 9), -2);
        due.is("another juror's", x.vote(1, 4), 1);
        due.is("clear", x.clear(0), 5);
        due.is("clear again", x.clear(0), 0);
        due.is("clear of none", x.clear(2), -2);
        due.is("clear of none", x.clear(-1), -2);
        due.is("vote", x.vote(0, 4), 1);
        due.is("the other's stay", x.vote(1, 4), -4);
    }

    private static void rows() {
        FilmWeeks x = office(1, 1);
        int[][] wrong = {{-1, 0, 0, 0}, {2, 0, 0, 0}, {0, 0, 0, -1}, {0, 0, 0, 100001}, {2, 5, 5, 0}};
        for (int[] w : wrong) {
            due.is("row with a wrong number", x.row(w[0], w[1], w[2], w[3]), -1);
        }
        due.is("no juror", x.row(0, 1, 0, 0), -2);
        due.is("no film", x.row(0, 0, 1, 0), -2);
        for (int i = 1; i <= 100; i++) {
            due.is("row, alike ones too", x.row(i % 2, 0, 0, i < 50 ? 0 : 100000), i);
        }
        due.is("no room", x.row(0, 0, 0, 0), -5);
        due.is("no film comes ahead of no room", x.row(0, 0, 1, 0), -2);
        due.is("count(5)", x.count(5), 100);
    }

    private static void counts() {
        FilmWeeks x = office(2, 1, 1);
        x.vote(0, 0);
        x.vote(0, 1);
        due.is("no rules", x.counts(0, 0, 0), -6);
        due.is("no juror comes ahead of no rules", x.counts(2, 0, 0), -2);
        due.is("no film comes ahead of no rules", x.counts(0, 2, 0), -2);
        due.is("wrong minute", x.counts(2, 2, -1), -1);
        due.is("wrong minute", x.counts(0, 0, 100001), -1);
        due.is("rules", Due.rules(x, "count saw;rounds;tie film"), 0);
        x.row(0, 0, 0, 100);
        x.row(1, 0, 1, 0);
        x.row(0, 1, 0, 0);
        due.is("not yet known", x.counts(0, 0, 99), 0);
        due.is("known", x.counts(0, 0, 100), 1);
        due.is("known", x.counts(0, 0, 100000), 1);
        due.is("kin is not saw", x.counts(0, 1, 100), 0);
        due.is("not among the votes", x.counts(1, 0, 100), 0);
        x.row(0, 0, 0, 7);
        due.is("known by another row", x.counts(0, 0, 7), 1);
        due.is("it only asks", x.status(), 0);
    }

    private static void conditions() {
        String[] conds = {
            "saw", "kin", "not saw", "not kin", "saw and kin", "saw or kin", "saw and not kin or kin and not saw",
            "not (saw or kin)", "not saw or kin", "saw or kin and old 51", "(saw or kin) and old 51",
            "not not saw", "not (saw and (kin or old 51))", "old 50", "old 51", "old 0 and not old 1000",
            "saw or saw and kin and kin", "saw and (kin or (saw and (kin or (old 51 or not kin))))",
        };
        for (int i = 0; i < conds.length; i++) {
            for (int state = 0; state < 4; state++) {
                boolean saw = (state & 1) != 0;
                boolean kin = (state & 2) != 0;
                FilmWeeks x = office(1, 1);
                x.vote(0, 0);
                if (saw) {
                    x.row(0, 0, 0, 0);
                }
                if (kin) {
                    x.row(1, 0, 0, 0);
                }
                due.is("rules of " + conds[i], Due.rules(x, "count " + conds[i] + ";points 1;tie film"), 0);
                due.is(conds[i] + " in state " + state, x.counts(0, 0, 0), holds(i, saw, kin) ? 1 : 0);
            }
        }
    }

    private static boolean holds(int cond, boolean saw, boolean kin) {
        boolean old51 = false;
        boolean[] all = {
            saw, kin, !saw, !kin, saw && kin, saw || kin, saw != kin, !(saw || kin), !saw || kin, saw || kin && old51,
            (saw || kin) && old51, saw, !(saw && (kin || old51)), true, false, true, saw,
            saw && (kin || (saw && (kin || (old51 || !kin)))),
        };
        return all[cond];
    }

    private static void points() {
        FilmWeeks x = office(3, 1, 1, 1, 1, 1);
        votes(x, 0, 4, 3, 2, 1);
        votes(x, 1, 3, 1);
        votes(x, 2, 1, 3);
        Due.rules(x, "count not kin;points 5 3 2;tie film");
        x.row(1, 0, 4, 10);
        x.row(1, 2, 1, 20);
        due.is("prize", x.prize(0), 3);
        due.is("one round", x.round(-1, 0), 1);
        int[][] want = {{NONE, 8, 2, 11, 5}, {NONE, 5, 3, 13, NONE}, {NONE, 3 + 2, 3, 5 + 5 + 5, NONE}};
        for (int film = 0; film < 5; film++) {
            due.is("sum of " + film, x.round(0, film), want[0][film]);
        }
        due.is("prize", x.prize(10), 3);
        due.is("places among those that count", x.round(0, 3), 5 + 5 + 3);
        due.is("places among those that count", x.round(0, 2), 3);
        due.is("places among those that count", x.round(0, 1), 2 + 3 + 5);
        due.is("one that counts for none", x.round(0, 4), NONE);
        due.is("prize", x.prize(20), 3);
        due.is("sum", x.round(0, 1), want[2][1]);
        due.is("sum", x.round(0, 3), want[2][3]);
        Due.rules(x, "count old 0;points 9;tie film");
        due.is("prize", x.prize(0), 1);
        due.is("beyond the numbers none", x.round(0, 2), 0);
        Due.rules(x, "count old 0;points 0;tie film");
        due.is("all have 0: there is a prize", x.prize(0), 1);
        due.is("in no votes", x.round(0, 0), NONE);
    }

    private static void pointTies() {
        FilmWeeks x = office(4, 10, 10, 30, 30);
        votes(x, 0, 0, 2);
        votes(x, 1, 3, 2);
        votes(x, 2, 3, 1);
        votes(x, 3, 1, 0);
        Due.rules(x, "count old 0;points 1 1;tie film");
        due.is("the lower number", x.prize(0), 0);
        Due.rules(x, "count old 0;points 1 1;tie fame");
        due.is("greater fame, then the lower number", x.prize(0), 2);
        Due.rules(x, "count old 0;points 1 1;tie first");
        due.is("more first places", x.prize(0), 3);
        x.clear(2);
        votes(x, 2, 1, 3);
        due.is("like sums", x.prize(0), 1);
        due.is("like sums", x.round(0, 1), x.round(0, 0));
        x.row(1, 3, 1, 0);
        Due.rules(x, "count not kin;points 1 1;tie first");
        due.is("the first that counts", x.prize(0), 0);
    }

    private static void rounds() {
        FilmWeeks x = office(5, 1, 2, 3, 4);
        votes(x, 0, 0, 3);
        votes(x, 1, 0);
        votes(x, 2, 1, 2, 3);
        votes(x, 3, 3, 1);
        votes(x, 4, 3, 2);
        Due.rules(x, "count old 0;rounds;tie fame");
        due.is("prize", x.prize(0), 3);
        due.is("rounds", x.round(-1, -99), 3);
        int[][] want = {{2, 1, 0, 2}, {2, 1, NONE, 2}, {2, NONE, NONE, 3}};
        for (int k = 0; k < 3; k++) {
            for (int film = 0; film < 4; film++) {
                due.is("round(" + k + ", " + film + ")", x.round(k, film), want[k][film]);
            }
        }
        due.is("no such round", x.round(3, 0), NONE);
        due.is("no such round", x.round(-2, 0), NONE);
        due.is("no such round", x.round(Integer.MAX_VALUE, 0), NONE);
        due.is("no such film", x.round(0, 4), NONE);
        due.is("no such film", x.round(0, -1), NONE);
        due.is("no such film", x.round(0, 20), NONE);
        due.is("no such film", x.round(0, Integer.MIN_VALUE), NONE);
    }

    private static void roundTies() {
        FilmWeeks x = office(3, 20, 10, 20);
        votes(x, 0, 0, 1);
        votes(x, 1, 1, 2);
        votes(x, 2, 2, 0);
        Due.rules(x, "count old 0;rounds;tie film");
        due.is("out goes the higher number", x.prize(0), 0);
        due.is("out", x.round(1, 2), NONE);
        Due.rules(x, "count old 0;rounds;tie fame");
        due.is("out goes the lesser fame", x.prize(0), 2);
        due.is("out", x.round(1, 1), NONE);

        FilmWeeks y = office(5, 1, 1, 1, 1);
        votes(y, 0, 3);
        votes(y, 1, 3);
        votes(y, 2, 1);
        votes(y, 3, 1, 0);
        votes(y, 4, 2, 3);
        Due.rules(y, "count old 0;rounds;tie first");
        due.is("0 is least", y.prize(0), 3);
        due.is("in votes, with none", y.round(0, 0), 0);
        due.is("out first", y.round(1, 0), NONE);
        due.is("then the least", y.round(2, 2), NONE);
        due.is("rounds", y.round(-1, 0), 3);
    }

    /** In the last round film 2's like sum comes from one that is out: fewer first places put it behind. */
    private static void halfIsNotEnough() {
        FilmWeeks x = office(4, 1, 1, 9);
        votes(x, 0, 1);
        votes(x, 1, 1);
        votes(x, 2, 0);
        votes(x, 3, 2, 0);
        Due.rules(x, "count old 0;rounds;tie first");
        due.is("prize", x.prize(0), 1);
        due.is("half is not enough", x.round(-1, 0), 3);
        due.is("like sums", x.round(1, 0), 2);
        due.is("like sums", x.round(1, 1), 2);
        due.is("the last is out", x.round(2, 0), NONE);
        due.is("all that are given", x.round(2, 1), 2);
        Due.rules(x, "count old 0;rounds;tie film");
        due.is("by film the lower number stays", x.prize(0), 0);
    }

    private static void votesRunOut() {
        FilmWeeks x = office(10);
        for (int film = 0; film < 20; film++) {
            x.film(10, 0, film);
        }
        for (int juror = 0; juror < 10; juror++) {
            votes(x, juror, juror, 10 + juror);
        }
        Due.rules(x, "count old 0;rounds;tie film");
        due.is("prize", x.prize(0), 0);
        due.is("rounds", x.round(-1, 0), 20);
        due.is("the last round", x.round(19, 0), 1);
        due.is("the last but one", x.round(18, 1), 1);
        due.is("out", x.round(19, 1), NONE);
        due.is("no such round", x.round(20, 0), NONE);
    }

    private static void latestPrize() {
        FilmWeeks x = office(1, 5, 6);
        votes(x, 0, 1);
        due.is("no rules", x.prize(0), -6);
        due.is("nothing kept", x.round(-1, 0), NONE);
        due.is("wrong minute comes ahead of no rules", x.prize(-1), -1);
        Due.rules(x, "count saw;points 4;tie film");
        x.row(0, 0, 1, 50);
        due.is("not yet", x.prize(49), -6);
        due.is("status()", x.status(), -6);
        due.is("kept: no rounds", x.round(-1, 0), 0);
        due.is("kept: no sums", x.round(0, 1), NONE);
        due.is("prize", x.prize(50), 1);
        due.is("status()", x.status(), 0);
        due.is("wrong", x.prize(100001), -1);
        due.is("wrong", x.prize(-1), -1);
        due.is("the latest that was not wrong", x.round(0, 1), 4);
        x.clear(0);
        Due.rules(x, "count saw;rounds;tie film");
        due.is("kept as it was", x.round(0, 1), 4);
        due.is("kept as it was", x.round(-1, 1), 1);
        due.is("no votes", x.prize(50), -6);
        due.is("kept: no rounds", x.round(-1, 0), 0);
        due.is("kept: no sums", x.round(0, 1), NONE);
    }
}
