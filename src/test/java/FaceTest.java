import java.lang.reflect.Constructor;
import java.lang.reflect.Field;
import java.lang.reflect.Method;
import java.lang.reflect.Modifier;
import java.util.ArrayList;
import java.util.Arrays;
import java.util.List;
import java.util.TreeSet;

/** The public face, promise 1 (a new object), promise 30 and 31 on it, and LANGUAGE.md's rules on members. */
public final class FaceTest {
    private static final String[] FACE = {
        "hall 4", "film 3", "way 3", "guest 3", "bar 4", "why 4", "put 4", "take 1", "of 2", "part 2", "grid 0",
        "hour 1", "better 0", "come 3", "doors 1", "delay 2", "queue 3", "juror 1", "vote 2", "clear 1", "row 4",
        "feed 5", "end 1", "rules 0", "fault 0", "counts 3", "prize 1", "round 2", "count 1", "status 0",
    };

    public static void main(String[] args) {
        Due due = new Due("FaceTest");
        face(due);
        newObject(due);
        due.end();
    }

    private static void face(Due due) {
        due.is("NONE", FilmWeeks.NONE, -1);
        due.holds("the class is public and final",
                Modifier.isPublic(FilmWeeks.class.getModifiers()) && Modifier.isFinal(FilmWeeks.class.getModifiers()));
        TreeSet<String> open = new TreeSet<>();
        TreeSet<String> names = new TreeSet<>();
        List<Method> hidden = new ArrayList<>();
        for (Method m : FilmWeeks.class.getDeclaredMethods()) {
            if (Modifier.isPrivate(m.getModifiers())) {
                hidden.add(m);
                continue;
            }
            names.add(m.getName());
            open.add(m.getName() + " " + m.getParameterCount());
            due.holds(m + " is public, of the object, over ints", Modifier.isPublic(m.getModifiers())
                    && !Modifier.isStatic(m.getModifiers()) && m.getReturnType() == int.class
                    && Arrays.stream(m.getParameterTypes()).allMatch(t -> t == int.class));
        }
        due.holds("the methods are the document's: " + open, open.equals(new TreeSet<>(Arrays.asList(FACE))));
        for (Method m : hidden) {
            due.holds(m + " bears no public name", !names.contains(m.getName()));
        }
        for (Field f : FilmWeeks.class.getDeclaredFields()) {
            due.holds(f + " is private or NONE", Modifier.isPrivate(f.getModifiers()) || f.getName().equals("NONE"));
        }
        for (Class<?> inside : FilmWeeks.class.getDeclaredClasses()) {
            inside(due, inside, names);
        }
        Constructor<?>[] made = FilmWeeks.class.getDeclaredConstructors();
        due.holds("one public constructor without parameters",
                made.length == 1 && Modifier.isPublic(made[0].getModifiers()) && made[0].getParameterCount() == 0);
    }

    /** LANGUAGE.md's rules 1, 5 and 11 for a class inside. */
    private static void inside(Due due, Class<?> inside, TreeSet<String> names) {
        due.holds(inside + " is private and static",
                Modifier.isPrivate(inside.getModifiers()) && Modifier.isStatic(inside.getModifiers()));
        for (Method m : inside.getDeclaredMethods()) {
            due.holds(m + " bears no public name", !names.contains(m.getName()));
        }
        int fields = 0;
        for (Field f : inside.getDeclaredFields()) {
            if (Modifier.isStatic(f.getModifiers())) {
                due.holds(f + " is final", Modifier.isFinal(f.getModifiers()));
            } else {
                fields++;
            }
        }
        due.holds(inside + " has at most twenty fields: " + fields, fields <= 20);
    }

    private static void newObject(Due due) {
        FilmWeeks x = new FilmWeeks();
        due.is("status()", x.status(), 0);
        for (int what = 0; what <= 7; what++) {
            due.is("count(" + what + ")", x.count(what), 0);
        }
        due.is("count(8)", x.count(8), FilmWeeks.NONE);
        due.is("count(9)", x.count(9), FilmWeeks.NONE);
        due.is("count(-1)", x.count(-1), FilmWeeks.NONE);
        due.is("grid()", x.grid(), 0);
        due.is("better()", x.better(), 0);
        due.is("fault()", x.fault(), FilmWeeks.NONE);
        due.is("round(-1, 0)", x.round(-1, 0), FilmWeeks.NONE);
        due.is("round(0, 0)", x.round(0, 0), FilmWeeks.NONE);
        due.is("of(0, 0)", x.of(0, 0), FilmWeeks.NONE);
        due.is("queue(0, 0, 0)", x.queue(0, 0, 0), FilmWeeks.NONE);
        due.is("why(0, 0, 0, 0)", x.why(0, 0, 0, 0), -2);
        due.is("counts(0, 0, 0)", x.counts(0, 0, 0), -2);
        due.is("status() behind those that ask", x.status(), 0);
        due.is("take(0)", x.take(0), -2);
        due.is("status()", x.status(), -2);
        due.is("prize(0)", x.prize(0), -6);
        due.is("clear(0)", x.clear(0), -2);
        due.is("doors(50)", x.doors(50), 50);
        due.is("status()", x.status(), 0);

        FilmWeeks other = new FilmWeeks();
        other.film(1, 0, 0);
        due.is("count(1) of another object's film", x.count(1), 0);
    }
}
