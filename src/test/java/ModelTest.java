import java.lang.reflect.Method;
import java.util.ArrayList;
import java.util.Arrays;
import java.util.List;
import java.util.Random;

/** Random runs of at most 512 calls: each answer is compared with the model's. The seeds are fixed. */
public final class ModelTest {
    private static final Due due = new Due("ModelTest");
    private static final Method[] FACE = face();
    private static final String[] WORDS = {
        "count", "saw", "kin", "old", "not", "and", "or", "(", ")", ";", "points", "rounds", "tie", "fame", "film",
        "first", "1", "2", "50", "1000", "1001", "0", "x", " ", "  ", "\u00e9",
    };

    private final Random random;
    private final FilmWeeks x = new FilmWeeks();
    private final Model model = new Model();
    private final List<String> calls = new ArrayList<>();
    private boolean wrong = false;

    private ModelTest(long seed) {
        random = new Random(seed);
    }

    public static void main(String[] args) throws Exception {
        int runs = args.length > 0 ? Integer.parseInt(args[0]) : 400;
        int grids = args.length > 1 ? Integer.parseInt(args[1]) : 60;
        for (int i = 0; i < runs; i++) {
            new ModelTest(i).office();
            new ModelTest(100000 + i).jury();
            new ModelTest(200000 + i).texts();
            new ModelTest(400000 + i).late();
        }
        for (int i = 0; i < grids; i++) {
            new ModelTest(300000 + i).grids();
            new ModelTest(500000 + i).brim();
        }
        due.end();
    }

    private static Method[] face() {
        return Arrays.stream(FilmWeeks.class.getMethods()).filter(m -> m.getDeclaringClass() == FilmWeeks.class)
                .sorted((a, b) -> a.getName().compareTo(b.getName())).toArray(Method[]::new);
    }

    private int call(String name, int... a) throws Exception {
        if (wrong || calls.size() >= 512) {
            return 0;
        }
        Object[] boxed = Arrays.stream(a).boxed().toArray();
        Method method = Arrays.stream(FACE).filter(m -> m.getName().equals(name)).findFirst().orElseThrow();
        int got = (int) method.invoke(x, boxed);
        int want = model.call(name, a);
        calls.add(name + Arrays.toString(a) + " = " + want);
        if (got != want) {
            wrong = true;
            calls.forEach(System.out::println);
        }
        due.is(name + Arrays.toString(a), got, want);
        return got;
    }

    private int any(int least, int most) {
        return least + random.nextInt(most - least + 1);
    }

    /** Mostly in the range, at times at its edges and just outside. */
    private int near(int least, int most) {
        switch (random.nextInt(30)) {
            case 0: return least - 1;
            case 1: return most + 1;
            case 2: return least;
            case 3: return most;
            default: return any(least, most);
        }
    }

    private int begin() {
        return random.nextInt(20) == 0 ? near(0, 14399) : any(0, 8) * 1440 / 3 + any(0, 30) * 10;
    }

    private int showing() {
        return near(0, Math.max(0, model.showings.size() - 1));
    }

    private int film() {
        return near(0, Math.max(0, model.films.size() - 1));
    }

    private void prepare(int films) throws Exception {
        for (int i = any(1, 4); i > 0; i--) {
            call("hall", any(0, 2), any(1, 5) * 60, any(0, 3) * 10, random.nextInt(3) == 0 ? any(1, 15) : 15);
        }
        for (int i = any(1, films); i > 0; i--) {
            call("film", any(1, 12) * 10, any(0, 3), any(0, 1000));
        }
        call("way", 0, 1, any(0, 50));
        call("way", 0, 2, any(0, 500));
        call("way", 2, 1, any(0, 50));
    }

    private void office() throws Exception {
        prepare(6);
        changeOffice(450);
    }

    private void changeOffice(int times) throws Exception {
        for (int i = 0; i < times; i++) {
            switch (random.nextInt(18)) {
                case 0: call("hall", near(0, 4), near(1, 2000), near(0, 120), near(1, 15)); break;
                case 1: call("film", near(1, 300), near(0, 3), near(0, 1000)); break;
                case 2: call("way", near(0, 4), near(0, 4), near(0, 60)); break;
                case 3: {
                    int from = random.nextInt(4) == 0 ? -1 : begin();
                    call("guest", film(), from, from == -1 ? near(-1, 5) : from + any(-10, 4000));
                    break;
                }
                case 4: call("bar", film(), random.nextBoolean() ? 0 : near(0, 2000),
                        random.nextBoolean() ? 60 : near(0, 5), random.nextBoolean() ? -1 : film()); break;
                case 5: call("why", film(), near(0, 3), begin(), near(0, 2)); break;
                case 6: case 7: case 8: call("put", film(), any(0, 3), begin(), Math.max(0, near(-5, 2))); break;
                case 9: call("take", showing()); break;
                case 10: call("part", near(0, 23), near(0, 300)); break;
                case 11: call("grid"); call("status"); break;
                case 12: call("hour", begin()); break;
                case 13: if (random.nextInt(5) == 0) { call("better"); } break;
                case 14: call("come", showing(), near(-40, 10), random.nextInt(9) == 0 ? near(0, 1000) : any(0, 60)); break;
                case 15: call("delay", showing(), near(0, 300)); break;
                case 16: call("queue", showing(), near(-40, 400), near(0, 2)); call("doors", near(1, 90)); break;
                default: call("of", showing(), near(0, 8)); call("count", near(0, 8)); break;
            }
        }
    }

    /** Crowded programmes, where better has much to choose from. */
    private void grids() throws Exception {
        prepare(12);
        for (int hour = 0; hour < 24; hour++) {
            call("part", hour, any(0, 300));
        }
        for (int i = any(1, 120); i > 0; i--) {
            call("put", any(0, 11), any(0, 3), any(0, 60) * 20, random.nextInt(6) == 0 ? 2 : 0);
        }
        for (int i = any(0, 3); i > 0; i--) {
            call("bar", any(0, 11), any(0, 900), any(0, 60), any(-1, 11));
        }
        for (int time = 0; time < 2; time++) {
            for (int i = any(0, 6); i > 0; i--) {
                call("hour", any(0, 60) * 20);
            }
            call("better");
            call("grid");
            for (int s = 0; s < model.showings.size(); s++) {
                call("of", s, 1);
                call("of", s, 2);
            }
        }
    }

    /** Few prints among many halls, showings close together, and WAYS told anew: much waits for the one ahead. */
    private void late() throws Exception {
        for (int i = 0; i < 4; i++) {
            call("hall", any(0, 3), 10, any(0, 2) * 10, 15);
        }
        for (int i = any(1, 3); i > 0; i--) {
            call("film", any(1, 60), 0, 0);
        }
        for (int i = any(5, 80); i > 0; i--) {
            call("put", film(), any(0, 3), any(0, 1500), 0);
        }
        for (int i = 0; i < 100; i++) {
            switch (random.nextInt(6)) {
                case 0: call("way", any(0, 3), any(0, 3), any(0, random.nextBoolean() ? 60 : 2000)); break;
                case 1: call("delay", showing(), any(0, random.nextBoolean() ? 30 : 300)); break;
                case 2: if (random.nextInt(4) == 0) { call("take", showing()); } break;
                case 3: call("come", showing(), any(-40, 10), any(0, 9)); call("doors", any(1, 3)); break;
                case 4: call("queue", showing(), near(-40, 400), any(0, 2)); break;
                default: call("of", showing(), any(7, 8)); break;
            }
        }
        for (int s = 0; s < model.showings.size(); s++) {
            call("of", s, 7);
            call("queue", s, any(-20, 200), any(0, 2));
        }
    }

    private void jury() throws Exception {
        for (int i = any(1, 8); i > 0; i--) {
            call("film", 10, 0, any(0, 3));
        }
        for (int i = any(1, 10); i > 0; i--) {
            call("juror", near(0, 120));
        }
        changeJury(250);
        call("prize", 100000);
        for (int k = -2; k < 9; k++) {
            for (int f = -1; f < 9; f++) {
                call("round", k, f);
            }
        }
    }

    private void changeJury(int times) throws Exception {
        for (int i = 0; i < times; i++) {
            int juror = near(0, Math.max(0, model.jurors.size() - 1));
            switch (random.nextInt(9)) {
                case 0: case 1: case 2: call("vote", juror, film()); break;
                case 3: call("row", near(0, 1), juror, film(), near(0, 20)); break;
                case 4: if (random.nextInt(6) == 0) { call("clear", juror); } break;
                case 5: if (random.nextInt(3) == 0) { tell(rules()); } break;
                case 6: call("counts", juror, film(), near(0, 20)); break;
                case 7:
                    call("prize", near(0, 20));
                    call("status");
                    for (int k = -1; k < 3; k++) {
                        call("round", k, film());
                    }
                    break;
                default: call("round", near(0, 4), film()); call("count", near(0, 8)); break;
            }
        }
    }

    /** All that can be full is, but for what the changes then take out. */
    private void brim() throws Exception {
        for (int i = 0; i < 4; i++) {
            call("hall", any(0, 2), near(1, 2000), any(0, 2) * 10, 15);
        }
        for (int i = 0; i < 20; i++) {
            call("film", any(1, 6) * 10, any(0, 3), near(0, 1000));
        }
        for (int i = 0; i < 66; i++) {
            call("put", i % 20, i % 4, i / 4 * 80 + any(0, 1) * 10, 0);
        }
        for (int i = 0; i < 10; i++) {
            call("juror", any(0, 120));
            for (int j = 0; j < 5; j++) {
                call("vote", i, any(0, 19));
            }
        }
        for (int i = 0; i < 100; i++) {
            call("row", any(0, 1), any(0, 9), any(0, 19), any(0, 20));
        }
        for (int i = 0; i < 10; i++) {
            call("hour", begin());
        }
        tell(rules());
        changeOffice(70);
        changeJury(50);
    }

    private void texts() throws Exception {
        for (int i = 0; i < 20; i++) {
            String text = rules();
            for (int j = random.nextInt(3); j > 0; j--) {
                int at = any(0, text.length());
                int to = Math.min(text.length(), at + any(0, 4));
                text = text.substring(0, at) + (random.nextBoolean() ? "" : WORDS[random.nextInt(WORDS.length)])
                        + text.substring(to);
            }
            tell(text);
        }
        for (int i = 0; i < 8; i++) {
            StringBuilder text = new StringBuilder();
            for (int j = any(0, 80); j > 0; j--) {
                text.append(WORDS[random.nextInt(WORDS.length)]);
            }
            tell(text.toString());
        }
    }

    private String rules() {
        StringBuilder points = new StringBuilder("points");
        for (int i = any(1, 5); i > 0; i--) {
            points.append(" ").append(any(0, 6));
        }
        return "count " + cond(any(0, 4)) + ";" + (random.nextBoolean() ? "rounds" : points) + ";tie "
                + new String[] {"fame", "film", "first"}[random.nextInt(3)];
    }

    private String cond(int size) {
        if (size == 0) {
            return new String[] {"saw", "kin", "old " + any(0, 120), "old 0"}[random.nextInt(4)];
        }
        switch (random.nextInt(4)) {
            case 0: return "not " + cond(size - 1);
            case 1: return "(" + cond(size - 1) + ")";
            case 2: return cond(size - 1) + " and " + cond(random.nextInt(size));
            default: return cond(size - 1) + " or " + cond(random.nextInt(size));
        }
    }

    private void tell(String text) throws Exception {
        byte[] bytes = text.getBytes(java.nio.charset.StandardCharsets.ISO_8859_1);
        for (int i = 0; i < bytes.length; i += 20) {
            java.nio.ByteBuffer twenty = java.nio.ByteBuffer.wrap(Arrays.copyOfRange(bytes, i, i + 20));
            call("feed", twenty.getInt(), twenty.getInt(), twenty.getInt(), twenty.getInt(), twenty.getInt());
        }
        call("end", bytes.length);
        call("rules");
        call("fault");
        call("count", 8);
    }
}
