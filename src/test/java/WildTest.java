import java.lang.reflect.InvocationTargetException;
import java.lang.reflect.Method;
import java.lang.reflect.Modifier;
import java.util.Arrays;
import java.util.Random;

/** LANGUAGE.md's rule 7: no call throws or fails to end, whatever its arguments, in whatever state. */
public final class WildTest {
    private static final int[] EDGES = {
        Integer.MIN_VALUE, Integer.MIN_VALUE + 1, Integer.MAX_VALUE, Integer.MAX_VALUE - 40, -41, -40, -3, -2, -1, 0, 1, 2,
        3, 4, 5, 8, 9, 10, 19, 20, 23, 24, 59, 60, 61, 100, 300, 400, 1440, 14399, 14400, 100000, 100001,
        0x636f756e, 0x74207361, 0x20202020,
    };

    public static void main(String[] args) throws Exception {
        Due due = new Due("WildTest");
        Method[] face = Arrays.stream(FilmWeeks.class.getDeclaredMethods())
                .filter(m -> Modifier.isPublic(m.getModifiers()))
                .sorted((a, b) -> a.getName().compareTo(b.getName())).toArray(Method[]::new);
        for (int seed = 0; seed < 300; seed++) {
            Random random = new Random(seed);
            FilmWeeks x = new FilmWeeks();
            if (seed % 2 == 0) {
                fill(x);
            }
            for (int i = 0; i < 380; i++) {
                Method m = face[random.nextInt(face.length)];
                Object[] a = new Object[m.getParameterCount()];
                for (int p = 0; p < a.length; p++) {
                    a[p] = random.nextInt(8) == 0 ? random.nextInt() : EDGES[random.nextInt(EDGES.length)];
                }
                try {
                    int answer = (int) m.invoke(x, a);
                    due.holds(m.getName() + Arrays.toString(a) + " answered " + answer, answer >= -6);
                } catch (InvocationTargetException e) {
                    due.holds(m.getName() + Arrays.toString(a) + " threw " + e.getCause(), false);
                }
            }
        }
        dearest(due);
        due.end();
    }

    private static void fill(FilmWeeks x) {
        for (int i = 0; i < 4; i++) {
            x.hall(i % 2, 500, 5, 15);
        }
        for (int i = 0; i < 20; i++) {
            x.film(20 + i, i % 4, 50 * i);
        }
        for (int i = 0; i < 40; i++) {
            x.put(i % 20, i % 4, 25 * i, 0);
        }
        for (int i = 0; i < 10; i++) {
            x.juror(12 * i);
            for (int v = 0; v < 5; v++) {
                x.vote(i, (i + v) % 20);
            }
        }
        Due.rules(x, "count saw or old 50 and not kin;rounds;tie first");
    }

    /** Sixty showings, ten HOURS, four HALLS: the dearest BETTER that there can be, many times. */
    private static void dearest(Due due) {
        FilmWeeks x = new FilmWeeks();
        for (int i = 0; i < 4; i++) {
            x.hall(i % 2, 2000, 0, 15);
        }
        for (int i = 0; i < 20; i++) {
            x.film(30, 0, 1000 - i);
        }
        for (int i = 0; i < 60; i++) {
            x.put(i % 20, i % 4, (i / 4) * 30, 0);
        }
        due.is("showings", x.count(2), 60);
        for (int i = 0; i < 60; i++) {
            x.delay(i, 300);
        }
        due.holds("all are late behind one another", x.of(59, 7) >= 14 * 330 && x.queue(59, 400, 0) == 0);
        x.delay(0, 0);
        for (int time = 0; time < 25; time++) {
            for (int i = 0; i < 10; i++) {
                x.hour(1000 + 400 * time + 30 * i);
            }
            int before = x.grid();
            int changes = x.better();
            due.holds("changes make it greater", changes == 0 ? x.grid() == before : x.grid() >= before + changes);
        }
    }
}
