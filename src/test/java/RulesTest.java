/** Promises 23 to 26: feed, end, rules, fault; and count(7), count(8) of promise 30. */
public final class RulesTest {
    private static final int NONE = FilmWeeks.NONE;
    private static final Due due = new Due("RulesTest");

    public static void main(String[] args) {
        tape();
        good();
        faults();
        deep();
        longTexts();
        oldRulesStay();
        bytes();
        due.end();
    }

    private static void tape() {
        FilmWeeks x = new FilmWeeks();
        due.is("end of nothing", x.end(0), 0);
        due.is("end beyond", x.end(1), NONE);
        for (int i = 1; i <= 15; i++) {
            due.is("feed", x.feed(0, 0, 0, 0, 0), 20 * i);
        }
        due.is("feed to more than 300", x.feed(0, 0, 0, 0, 0), NONE);
        due.is("count(7)", x.count(7), 300);
        due.is("end", x.end(281), 281);
        due.is("feed to 301", x.feed(0, 0, 0, 0, 0), NONE);
        due.is("end", x.end(280), 280);
        due.is("feed to 300", x.feed(0, 0, 0, 0, 0), 300);
        due.is("end below 0", x.end(-1), NONE);
        due.is("end beyond", x.end(301), NONE);
        due.is("end, all of it", x.end(300), 300);
        due.is("end", x.end(0), 0);
        due.is("count(7)", x.count(7), 0);
        due.is("none of these are refused", x.status(), 0);
    }

    private static void good() {
        String[] texts = {
            "count saw;rounds;tie film", "  count  kin ; rounds ; tie  fame  ", "count old0;points0;tie first",
            "count(saw);points 1 2 3 4 5;tie fame", "count saw;rounds;tie film",
            "count not not saw and kin or old 1000;points 1000;tie film",
            "count old 0000000000000000000000000000001000;points 00;tie film",
            "count ((saw) or (kin and not (old 3)));points 5 0 7;tie first",
            "count not(saw)and(kin)or(old 5);rounds;tie fame",
        };
        int[] numbers = {0, 0, 1, 5, 0, 1, 1, 3, 0};
        for (int i = 0; i < texts.length; i++) {
            FilmWeeks x = new FilmWeeks();
            due.is(texts[i], Due.rules(x, texts[i]), 0);
            due.is("fault() of " + texts[i], x.fault(), NONE);
            due.is("numbers of " + texts[i], x.count(8), numbers[i]);
            due.is("the tape is empty", x.count(7), 0);
            due.is("status()", x.status(), 0);
        }
    }

    /** The caret in each text stands ahead of the TOKEN that can't go on. */
    private static void faults() {
        String[] texts = {
            "^", "   ^", "^x", "^saw", "^zount saw;rounds;tie film", "count ^sawz;rounds;tie film", "count ^zsaw", "^counts saw;rounds;tie film", "^Count saw;rounds;tie film",
            "^countsaw;rounds;tie film", "count^", "count  ^", "count ^;rounds;tie film", "count saw^",
            "count saw ^saw;rounds;tie film", "count saw ^not kin;rounds;tie film", "count saw and ^;rounds;tie film",
            "count saw or ^or;rounds;tie film", "count ^and saw;rounds;tie film", "count not ^;rounds;tie film",
            "count old ^;rounds;tie film", "count old ^1001;rounds;tie film", "count old ^99999999999999;rounds;tie film",
            "count old ^4294967296;rounds;tie film", "count old 5 ^5;rounds;tie film", "count old ^x;rounds;tie film",
            "count (^);rounds;tie film", "count (saw ^;rounds;tie film", "count (saw)^);rounds;tie film",
            "count (saw^", "count saw ^5;rounds;tie film", "count saw;^;tie film", "count saw;^point 1;tie film",
            "count saw;points^;tie film", "count saw;points ^x;tie film", "count saw;points 1 ^1001;tie film",
            "count saw;points ^1001;tie film", "count saw;points 1 2 3 4 5 ^6;tie film",
            "count saw;points 1 2 3 4 5 ^1001;tie film", "count saw;points 1^,2;tie film", "count saw;points 1 ^x",
            "count saw;points 1^", "count saw;points^", "count saw;rounds ^1;tie film", "count saw;rounds^",
            "count saw;rounds;^", "count saw;rounds;^ties film", "count saw;rounds;tie ^", "count saw;rounds;tie ^fames",
            "count saw;rounds;tie film^1", "count saw;rounds;tie film ^;",
            "count saw;rounds;tie film ^count", "count saw;rounds;tie ^5", "count saw;rounds;tie^;", "count saw^\t;rounds",
            "count ^\u00ffsaw;rounds;tie film", "count ^\0saw;rounds;tie film", "count saw^\u00a0;rounds;tie film",
            "count ^-1", "count saw;points ^-1;tie film", "count ^sawkin;rounds;tie film",
        };
        for (String marked : texts) {
            int place = marked.indexOf('^');
            String text = marked.replace("^", "");
            FilmWeeks x = new FilmWeeks();
            due.is("rules of " + marked, Due.rules(x, text), -6);
            due.is("fault of " + marked, x.fault(), place);
            due.is("the tape is empty", x.count(7), 0);
            due.is("no rules", x.count(8), NONE);
            due.is("status()", x.status(), -6);
        }
    }

    private static void deep() {
        String tail = ";rounds;tie film";
        FilmWeeks x = new FilmWeeks();
        due.is("eight", Due.rules(x, "count " + "(".repeat(8) + "saw" + ")".repeat(8) + tail), 0);
        due.is("nine", Due.rules(x, "count " + "(".repeat(9) + "saw" + ")".repeat(9) + tail), -6);
        due.is("at the ninth", x.fault(), 14);
        due.is("eight not", Due.rules(x, "count " + "not ".repeat(8) + "saw" + tail), 0);
        due.is("nine not", Due.rules(x, "count " + "not ".repeat(9) + "saw" + tail), -6);
        due.is("at the ninth", x.fault(), 6 + 32);
        due.is("both", Due.rules(x, "count " + "not(".repeat(4) + "saw" + ")".repeat(4) + tail), 0);
        due.is("both", Due.rules(x, "count " + "not(".repeat(4) + "not saw" + ")".repeat(4) + tail), -6);
        due.is("at the ninth", x.fault(), 22);
        due.is("both", Due.rules(x, "count " + "not(".repeat(4) + "(saw)" + ")".repeat(4) + tail), -6);
        due.is("at the ninth", x.fault(), 22);
        due.is("one behind another", Due.rules(x, "count " + "not saw and ".repeat(20) + "kin" + tail), 0);
        due.is("one behind another", Due.rules(x, "count " + "(saw)or".repeat(30) + "(kin)" + tail), 0);
        String half = "not ".repeat(7) + "(saw)";
        due.is("each counts what it is within", Due.rules(x, "count " + half + " and " + half + tail), 0);
        String within = "(not (saw) or not ((kin) and not (((((old 1))))) ))";
        due.is("within one another", Due.rules(x, "count " + within + tail), -6);
        due.is("at the ninth", x.fault(), 6 + within.indexOf("(old"));
    }

    private static void longTexts() {
        String text = "count saw;rounds;tie film";
        FilmWeeks x = new FilmWeeks();
        due.is("300 bytes", Due.rules(x, text + " ".repeat(300 - text.length())), 0);
        due.is("300 bytes", Due.rules(x, " ".repeat(300 - text.length()) + text), 0);
        due.is("300 blanks", Due.rules(x, " ".repeat(300)), -6);
        due.is("the end's place is the length", x.fault(), 300);
        String open = "count old " + "0".repeat(290);
        due.is("300 bytes without an end", Due.rules(x, open), -6);
        due.is("fault", x.fault(), 300);
        due.is("a long row of digits", Due.rules(x, "count old " + "9".repeat(290)), -6);
        due.is("fault", x.fault(), 10);
        due.is("a long row of letters", Due.rules(x, "c".repeat(300)), -6);
        due.is("fault", x.fault(), 0);
    }

    private static void oldRulesStay() {
        FilmWeeks x = new FilmWeeks();
        x.film(10, 0, 0);
        x.juror(50);
        x.vote(0, 0);
        due.is("rules", Due.rules(x, "count old 40;points 7 8;tie film"), 0);
        due.is("counts", x.counts(0, 0, 0), 1);
        due.is("bad rules", Due.rules(x, "count old 60;points 1 2 3;tie x"), -6);
        due.is("the old cond stays", x.counts(0, 0, 0), 1);
        due.is("the old numbers stay", x.count(8), 2);
        due.is("the old points stay", x.prize(0), 0);
        due.is("the old points stay", x.round(0, 0), 7);
        due.is("fault stays told", x.fault(), 30);
        due.is("new rules", Due.rules(x, "count old 60;rounds;tie film"), 0);
        due.is("no fault", x.fault(), NONE);
        due.is("the new cond", x.counts(0, 0, 0), 0);
        due.is("count(8)", x.count(8), 0);
        due.is("an empty text", x.rules(), -6);
        due.is("fault", x.fault(), 0);
    }

    /** The highest byte of a number comes first. */
    private static void bytes() {
        FilmWeeks x = new FilmWeeks();
        x.feed(0x636f756e, 0x74207361, 0x773b726f, 0x756e6473, 0x3b746965);
        x.feed(0x2066616d, 0x65202020, 0x80000000, -1, 0);
        due.is("end", x.end(27), 27);
        due.is("rules", x.rules(), 0);
        x.feed(0x636f756e, 0x742080ff, 0, 0, 0);
        due.is("rules", x.rules(), -6);
        due.is("a byte above 127", x.fault(), 6);
    }
}
