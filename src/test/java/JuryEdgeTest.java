/** Both sides of each limit that Terms IV names: what is known by a minute, AGE, places, half of all, ORDER, FAULT. */
public final class JuryEdgeTest {
    private static final int NONE = FilmWeeks.NONE;
    private static final Due due = new Due("JuryEdgeTest");

    public static void main(String[] args) {
        knownFromAMinuteOn();
        ageNotBelow();
        rowsOfAnother();
        placesWithNumbers();
        placesMoveUp();
        moreThanHalf();
        halfOfThoseGiven();
        leastIsOut();
        orderByFame();
        orderByFirst();
        firstThatCounts();
        oneFilm();
        everyRound();
        keptAsTheLatest();
        rulesManyTimes();
        tokens();
        faultAtEachToken();
        faultAtTheEnd();
        due.end();
    }

    /** Jurors with the VOTES told, all 50 years old; as many FILMS as FAMES. */
    private static FilmWeeks jury(int[] fames, int[]... votes) {
        FilmWeeks x = new FilmWeeks();
        for (int fame : fames) {
            x.film(1, 0, fame);
        }
        for (int juror = 0; juror < votes.length; juror++) {
            x.juror(50);
            for (int film : votes[juror]) {
                x.vote(juror, film);
            }
        }
        return x;
    }

    private static int[] some(int... films) {
        return films;
    }

    private static void sums(FilmWeeks x, int round, int... want) {
        for (int film = 0; film < want.length; film++) {
            due.is("round(" + round + ", " + film + ")", x.round(round, film), want[film]);
        }
    }

    /** SAW, KIN: known from a minute on (0 .. 100,000). */
    private static void knownFromAMinuteOn() {
        for (int sort = 0; sort < 2; sort++) {
            for (int known : new int[] {0, 1, 99999, 100000}) {
                FilmWeeks x = jury(some(1), some(0));
                Due.rules(x, sort == 0 ? "count saw;rounds;tie film" : "count kin;rounds;tie film");
                x.row(sort, 0, 0, known);
                x.row(1 - sort, 0, 0, 0);
                due.is("COUNTS at the minute", x.counts(0, 0, known), 1);
                due.is("PRIZE at the minute", x.prize(known), 0);
                due.is("COUNTS at the last minute", x.counts(0, 0, 100000), 1);
                if (known > 0) {
                    due.is("COUNTS a minute ahead", x.counts(0, 0, known - 1), 0);
                    due.is("PRIZE a minute ahead", x.prize(known - 1), -6);
                    x.row(sort, 0, 0, known - 1);
                    due.is("another ROW, known earlier", x.counts(0, 0, known - 1), 1);
                }
            }
        }
    }

    /** old: AGE not below. */
    private static void ageNotBelow() {
        int[] ages = {0, 1, 49, 50, 51, 119, 120};
        for (int years : new int[] {0, 1, 50, 120, 121, 1000}) {
            FilmWeeks x = new FilmWeeks();
            x.film(1, 0, 0);
            Due.rules(x, "count old " + years + ";rounds;tie film");
            for (int juror = 0; juror < ages.length; juror++) {
                x.juror(ages[juror]);
                x.vote(juror, 0);
                due.is("old " + years + " at AGE " + ages[juror], x.counts(juror, 0, 0), ages[juror] >= years ? 1 : 0);
            }
        }
    }

    /** A ROW is of one juror and one FILM. */
    private static void rowsOfAnother() {
        FilmWeeks x = jury(some(1, 1), some(0, 1), some(0, 1));
        Due.rules(x, "count saw;rounds;tie film");
        x.row(0, 0, 1, 0);
        due.is("its juror and FILM", x.counts(0, 1, 0), 1);
        due.is("another FILM", x.counts(0, 0, 0), 0);
        due.is("another juror", x.counts(1, 1, 0), 0);
        x.clear(0);
        due.is("not among the VOTES", x.counts(0, 1, 0), 0);
        x.vote(0, 1);
        due.is("the ROW has stayed", x.counts(0, 1, 0), 1);
    }

    /** POINTS: beyond the NUMBERS none. */
    private static void placesWithNumbers() {
        String[] points = {"9", "9 8", "9 8 7", "9 8 7 6", "9 8 7 6 5", "0 0 0 0 1000"};
        int[][] want = {{9, 0, 0, 0, 0}, {9, 8, 0, 0, 0}, {9, 8, 7, 0, 0}, {9, 8, 7, 6, 0}, {9, 8, 7, 6, 5},
            {0, 0, 0, 0, 1000}};
        for (int i = 0; i < points.length; i++) {
            FilmWeeks x = jury(some(1, 1, 1, 1, 1, 1), some(0, 1, 2, 3, 4));
            Due.rules(x, "count old 0;points " + points[i] + ";tie film");
            due.is("NUMBERS", x.count(8), points[i].split(" ").length);
            due.is("PRIZE by " + points[i], x.prize(0), i == 5 ? 4 : 0);
            sums(x, 0, want[i]);
            due.is("in no VOTES", x.round(0, 5), NONE);
            due.is("there is ROUND 0 alone", x.round(1, 0), NONE);
            due.is("how many", x.round(-1, 0), 1);
        }
    }

    /** POINTS: its place among those that COUNT for that juror. */
    private static void placesMoveUp() {
        FilmWeeks x = jury(some(1, 1, 1), some(0, 1, 2), some(2, 1));
        Due.rules(x, "count not kin;points 5 3;tie film");
        due.is("PRIZE", x.prize(0), 1);
        sums(x, 0, 5, 6, 5);
        x.row(1, 0, 0, 7);
        due.is("not yet known", x.prize(6), 1);
        sums(x, 0, 5, 6, 5);
        due.is("known", x.prize(7), 1);
        sums(x, 0, NONE, 8, 8);
        x.row(1, 1, 2, 8);
        due.is("known", x.prize(8), 1);
        sums(x, 0, NONE, 10, 3);
    }

    /** ROUNDS: more than half of all that were given. */
    private static void moreThanHalf() {
        int[][] cases = {{1, 1, 2}, {2, 1, 1}, {2, 2, 2}, {3, 2, 1}, {3, 3, 2}, {5, 5, 2}, {5, 4, 1}, {6, 4, 1}, {1, 0, 1}};
        for (int[] c : cases) {
            int[][] votes = new int[c[0] + c[1]][];
            for (int juror = 0; juror < votes.length; juror++) {
                votes[juror] = some(juror < c[0] ? 0 : 1);
            }
            FilmWeeks x = jury(some(1, 1), votes);
            Due.rules(x, "count old 0;rounds;tie film");
            due.is("PRIZE with " + c[0] + " of " + votes.length, x.prize(0), 0);
            due.is("ROUNDS with " + c[0] + " of " + votes.length, x.round(-1, 0), c[2]);
            due.is("what it has", x.round(0, 0), c[0]);
        }
    }

    /** Half of all that were given in that round: jurors whose FILMS are all out give none. */
    private static void halfOfThoseGiven() {
        FilmWeeks x = jury(some(9, 8, 7), some(0), some(0), some(1), some(2), some(1, 0));
        Due.rules(x, "count old 0;rounds;tie fame");
        due.is("PRIZE", x.prize(0), 0);
        due.is("ROUNDS", x.round(-1, 0), 3);
        sums(x, 0, 2, 2, 1);
        sums(x, 1, 2, 2, NONE);
        sums(x, 2, 3, NONE, NONE);
        FilmWeeks y = jury(some(9, 8, 7), some(0), some(0), some(1), some(2), some(2));
        y.row(1, 4, 2, 0);
        Due.rules(y, "count not kin;rounds;tie fame");
        due.is("PRIZE", y.prize(0), 0);
        due.is("two of four are half", y.round(-1, 0), 2);
        sums(y, 0, 2, 1, 1);
        sums(y, 1, 2, 1, NONE);
    }

    /** The FILM with the least (of those in any VOTES that COUNT, not out; 0 is least) is out. */
    private static void leastIsOut() {
        FilmWeeks x = jury(some(1, 1, 1, 1), some(1, 0), some(1), some(3), some(3, 0));
        Due.rules(x, "count old 0;rounds;tie film");
        due.is("PRIZE", x.prize(0), 1);
        sums(x, 0, 0, 2, NONE, 2);
        sums(x, 1, NONE, 2, NONE, 2);
        sums(x, 2, NONE, 2, NONE, NONE);
        due.is("ROUNDS", x.round(-1, 0), 3);
        due.is("no more ROUNDS", x.round(3, 1), NONE);
    }

    /** ORDER by fame: greater FAME is ahead, then the lower number; out goes the last. */
    private static void orderByFame() {
        int[][] fames = {{5, 5}, {5, 6}, {6, 5}, {0, 1000}, {1000, 999}};
        for (int[] f : fames) {
            int ahead = f[1] > f[0] ? 1 : 0;
            FilmWeeks x = jury(f, some(0), some(1));
            Due.rules(x, "count old 0;points 4;tie fame");
            due.is("PRIZE of FAMES " + f[0] + ", " + f[1], x.prize(0), ahead);
            Due.rules(x, "count old 0;rounds;tie fame");
            due.is("PRIZE of FAMES " + f[0] + ", " + f[1], x.prize(0), ahead);
            due.is("out is the other", x.round(1, 1 - ahead), NONE);
            Due.rules(x, "count old 0;points 4;tie film");
            due.is("by film the lower number", x.prize(0), 0);
            Due.rules(x, "count old 0;points 4;tie first");
            due.is("by first the lower number, of alike", x.prize(0), 0);
            x.juror(50);
            x.vote(2, 0);
            Due.rules(x, "count old 0;points 4;tie fame");
            due.is("a greater sum comes ahead of FAME", x.prize(0), 0);
        }
    }

    /** ORDER by first: more places as some juror's first that COUNTS, then the lower number. */
    private static void orderByFirst() {
        FilmWeeks x = jury(some(9, 9, 1), some(0, 1), some(2, 1), some(2, 0));
        Due.rules(x, "count old 0;points 2 2;tie first");
        due.is("PRIZE by first", x.prize(0), 2);
        sums(x, 0, 4, 4, 4);
        Due.rules(x, "count old 0;points 2 2;tie fame");
        due.is("PRIZE by fame", x.prize(0), 0);
        x.clear(2);
        x.vote(2, 0);
        x.vote(2, 2);
        Due.rules(x, "count old 0;points 2 2;tie first");
        due.is("PRIZE by first, told anew", x.prize(0), 0);
    }

    /** A first that does not COUNT is none; one that is out stays one. */
    private static void firstThatCounts() {
        FilmWeeks x = jury(some(1, 1, 1), some(2, 0), some(2, 1), some(1), some(0));
        x.row(1, 0, 2, 5);
        x.row(1, 1, 2, 6);
        Due.rules(x, "count not kin;points 1 1;tie first");
        due.is("all COUNT: two jurors' first", x.prize(4), 2);
        sums(x, 0, 2, 2, 2);
        due.is("one COUNTS no more: the next is that juror's first", x.prize(5), 0);
        sums(x, 0, 2, 2, 1);
        due.is("both COUNT no more: firsts are alike", x.prize(6), 0);
        due.is("it is in no VOTES that COUNT", x.round(0, 2), NONE);

        FilmWeeks y = jury(some(1, 1), some(1, 0), some(), some(0));
        y.row(1, 2, 0, 5);
        Due.rules(y, "count not kin;points 1 1;tie first");
        due.is("two for one", y.prize(4), 0);
        due.is("jurors with none that COUNTS have no first", y.prize(5), 1);
        sums(y, 0, 1, 1);
    }

    private static void oneFilm() {
        String[] manners = {"points 0", "points 7", "rounds"};
        int[] want = {0, 7, 1};
        for (int i = 0; i < manners.length; i++) {
            FilmWeeks x = jury(some(0, 0), some(1));
            Due.rules(x, "count old 50;" + manners[i] + ";tie first");
            due.is("PRIZE of one", x.prize(100000), 1);
            due.is("ROUNDS", x.round(-1, 0), 1);
            sums(x, 0, NONE, want[i]);
        }
    }

    /** The most ROUNDS that can be: twenty FILMS, one out at a time. */
    private static void everyRound() {
        int[][] votes = new int[10][];
        for (int juror = 0; juror < 10; juror++) {
            votes[juror] = some(19 - juror, 9 - juror);
        }
        FilmWeeks x = jury(new int[20], votes);
        Due.rules(x, "count old 0;rounds;tie film");
        due.is("PRIZE", x.prize(0), 10);
        due.is("ROUNDS", x.round(-1, 0), 20);
        due.is("the last FILM has all of the last ROUND", x.round(19, 10), 1);
        due.is("no ROUND more", x.round(20, 10), NONE);
        for (int k = 0; k < 10; k++) {
            due.is("0 is least: out goes the last by ORDER", x.round(k, 9 - k), 0);
            due.is("it is out in the next", x.round(k + 1, 9 - k), NONE);
        }
        for (int k = 10; k < 19; k++) {
            due.is("then the last of those with 1", x.round(k, 29 - k), 1);
            due.is("it is out in the next", x.round(k + 1, 29 - k), NONE);
        }
    }

    /** Promise 29: what prize() kept stays as it was, whatever comes behind it. */
    private static void keptAsTheLatest() {
        FilmWeeks x = jury(some(3, 2, 1), some(0, 1), some(1), some(2, 0));
        Due.rules(x, "count not kin;rounds;tie fame");
        due.is("PRIZE", x.prize(0), 0);
        x.clear(0);
        x.vote(1, 2);
        x.row(1, 1, 1, 0);
        x.film(1, 0, 9);
        x.juror(1);
        Due.rules(x, "count x");
        Due.rules(x, "count saw;points 9 9 9;tie film");
        sums(x, 0, 1, 1, 1, NONE);
        sums(x, 1, 2, 1, NONE, NONE);
        due.is("ROUNDS", x.round(-1, 0), 2);
        due.is("the latest", x.prize(0), -6);
        due.is("ROUNDS", x.round(-1, 0), 0);
        Due.rules(x, "count not saw;points 9;tie film");
        due.is("the latest", x.prize(0), 1);
        sums(x, 0, 0, 9, 9, NONE);
        due.is("nothing is left of ROUND 1", x.round(1, 0), NONE);
        due.is("ROUNDS", x.round(-1, 0), 1);
    }

    /** RULES told anew, refused or not, keep nothing of those told before: long ones, more often than any row holds. */
    private static void rulesManyTimes() {
        FilmWeeks x = jury(some(1), some(0));
        x.row(0, 0, 0, 5);
        String cond = "saw" + " and saw".repeat(30);
        for (int time = 0; time < 10; time++) {
            boolean turned = time % 2 == 1;
            due.is("RULES", Due.rules(x, "count " + (turned ? "not (" + cond + ")" : cond) + ";rounds;tie film"), 0);
            due.is("COUNTS ahead", x.counts(0, 0, 4), turned ? 1 : 0);
            due.is("COUNTS behind", x.counts(0, 0, 5), turned ? 0 : 1);
            due.is("no RULES", Due.rules(x, "count " + cond + " or"), -6);
        }
    }

    /** Longest rows of letters, of digits, single other bytes; any blanks between, or none. */
    private static void tokens() {
        String[] texts = {"count(saw)and(old5)or(kin);points1 2;tie first", "count saw;points 12;tie film",
            "count   saw   ;   rounds   ;   tie   fame", "count not(saw)or kin;rounds;tie film",
            "count((not saw));rounds;tie film", "count old 1and kin;points 1;tie film", "count old 1or(saw);rounds;tie film"};
        int[] numbers = {2, 1, 0, 0, 0, 1, 0};
        for (int i = 0; i < texts.length; i++) {
            FilmWeeks x = new FilmWeeks();
            due.taken(texts[i], x, y -> y.rules(), text(x, texts[i]));
            due.is("NUMBERS of " + texts[i], x.count(8), numbers[i]);
            due.is("no FAULT", x.fault(), NONE);
        }
    }

    /** Feeds the text; the 0 that RULES of it answer. */
    private static int text(FilmWeeks x, String text) {
        Due.feed(x, text);
        return 0;
    }

    /** Each TOKEN of a TEXT in turn becomes one that can't go on there, and the FAULT is its place. */
    private static void faultAtEachToken() {
        String[] tokens = {"count", "not", "(", "saw", "and", "old", "50", "or", "kin", ")", ";", "points", "5", "4", "3",
            "2", "1", ";", "tie", "fame"};
        String[] wrong = {"x", "cou", "countt", "Saw", "=", "\t", "\n", "\u00a0", "\u00ff", "\0", "-", "1001", "tie"};
        for (int at = 0; at < tokens.length; at++) {
            for (String w : wrong) {
                if (w.equals(tokens[at])) {
                    continue;
                }
                StringBuilder text = new StringBuilder();
                int place = 0;
                for (int i = 0; i < tokens.length; i++) {
                    place = i == at ? text.length() : place;
                    text.append(i == at ? w : tokens[i]).append(i % 2 == 0 ? " " : "  ");
                }
                FilmWeeks x = new FilmWeeks();
                due.is(text.toString(), Due.rules(x, text.toString()), -6);
                due.is("FAULT of " + text, x.fault(), place);
            }
        }
    }

    /** The end's: the TEXT's length; at whichever TOKEN it breaks off, with blanks behind or without. */
    private static void faultAtTheEnd() {
        String[] tokens = {"count", "not", "(", "saw", "and", "old", "50", "or", "kin", ")", ";", "points", "5", "4", "3",
            "2", "1", ";", "tie"};
        for (int many = 0; many <= tokens.length; many++) {
            StringBuilder text = new StringBuilder();
            for (int i = 0; i < many; i++) {
                text.append(i == 0 ? "" : " ").append(tokens[i]);
            }
            for (int blanks = 0; blanks <= 2; blanks++) {
                FilmWeeks x = new FilmWeeks();
                String cut = text + " ".repeat(blanks);
                due.is("broken off: " + cut, Due.rules(x, cut), -6);
                due.is("FAULT of " + cut, x.fault(), cut.length());
            }
        }
    }
}
