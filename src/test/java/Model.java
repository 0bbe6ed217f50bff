import java.util.ArrayList;
import java.util.Comparator;
import java.util.HashMap;
import java.util.List;
import java.util.Map;
import java.util.stream.Collectors;
import java.util.stream.Stream;

/**
 * The document once more in its plainest form, with the library and without regard to cost: every question is
 * answered from the told facts alone. ModelTest compares the class with it.
 */
final class Model {
    record Hall(int town, int seats, int clear, int formats) { }

    static final class Film {
        int minutes;
        int format;
        int fame;
        int from = -1;
        int to = -1;
        int before = 0;
        int most = 60;
        int beside = -1;
    }

    static final class Showing {
        int film;
        int hall;
        int begin;
        int sort;
        int delay = 0;
        boolean there = true;
        final int[] come = new int[51];
    }

    static final class Juror {
        int age;
        final List<Integer> votes = new ArrayList<>();
    }

    record Row(int sort, int juror, int film, int known) { }

    final List<Hall> halls = new ArrayList<>();
    final List<Film> films = new ArrayList<>();
    final List<Showing> showings = new ArrayList<>();
    final List<Integer> hours = new ArrayList<>();
    final List<Juror> jurors = new ArrayList<>();
    final List<Row> rows = new ArrayList<>();
    final List<Integer> tape = new ArrayList<>();
    final int[][] ways = new int[5][5];
    final int[] parts = new int[24];
    int doors = 50;
    int status = 0;
    int fault = -1;
    ModelRules rules = null;
    List<int[]> rounds = null;

    Model() {
        java.util.Arrays.fill(parts, 100);
    }

    int call(String name, int... a) {
        switch (name) {
            case "hall": return told(hall(a));
            case "film": return told(film(a));
            case "way": return told(way(a));
            case "guest": return told(guest(a));
            case "bar": return told(bar(a));
            case "why": return why(a);
            case "put": return told(put(a));
            case "take": return told(take(a[0]));
            case "of": return of(a[0], a[1]);
            case "part": return told(part(a));
            case "grid": return grid();
            case "hour": return told(hour(a[0]));
            case "better": return better();
            case "come": return told(come(a));
            case "doors": return told(doors(a[0]));
            case "delay": return told(delay(a));
            case "queue": return queue(a);
            case "juror": return told(juror(a[0]));
            case "vote": return told(vote(a));
            case "clear": return told(clear(a[0]));
            case "row": return told(row(a));
            case "feed": return feed(a);
            case "end": return end(a[0]);
            case "rules": return told(rules());
            case "fault": return fault;
            case "counts": return counts(a);
            case "prize": return told(prize(a[0]));
            case "round": return round(a[0], a[1]);
            case "count": return count(a[0]);
            case "status": return status;
            default: throw new IllegalArgumentException(name);
        }
    }

    private int told(int answer) {
        status = answer < 0 ? answer : 0;
        return answer;
    }

    private static boolean out(int n, int least, int most) {
        return n < least || n > most;
    }

    private boolean noFilm(int f) {
        return out(f, 0, films.size() - 1);
    }

    private boolean noHall(int h) {
        return out(h, 0, halls.size() - 1);
    }

    private boolean noJuror(int j) {
        return out(j, 0, jurors.size() - 1);
    }

    private boolean noShowing(int s) {
        return out(s, 0, showings.size() - 1) || !showings.get(s).there;
    }

    private int hall(int[] a) {
        if (out(a[0], 0, 4) || out(a[1], 1, 2000) || out(a[2], 0, 120) || out(a[3], 1, 15)) return -1;
        if (halls.size() == 4) return -5;
        halls.add(new Hall(a[0], a[1], a[2], a[3]));
        return halls.size() - 1;
    }

    private int film(int[] a) {
        if (out(a[0], 1, 300) || out(a[1], 0, 3) || out(a[2], 0, 1000)) return -1;
        if (films.size() == 20) return -5;
        Film f = new Film();
        f.minutes = a[0];
        f.format = a[1];
        f.fame = a[2];
        films.add(f);
        return films.size() - 1;
    }

    private int way(int[] a) {
        if (out(a[0], 0, 4) || out(a[1], 0, 4) || a[0] == a[1] || out(a[2], 0, 2000)) return -1;
        ways[a[0]][a[1]] = a[2];
        ways[a[1]][a[0]] = a[2];
        return 0;
    }

    private int guest(int[] a) {
        boolean none = a[1] == -1 && a[2] == -1;
        if (!none && (out(a[1], 0, 14399) || out(a[2], 0, 14399) || a[1] > a[2])) return -1;
        if (noFilm(a[0])) return -2;
        films.get(a[0]).from = a[1];
        films.get(a[0]).to = a[2];
        return 0;
    }

    private int bar(int[] a) {
        if (out(a[1], 0, 14399) || out(a[2], 0, 60) || (a[3] != -1 && a[3] == a[0])) return -1;
        if (noFilm(a[0]) || (a[3] != -1 && noFilm(a[3]))) return -2;
        Film f = films.get(a[0]);
        f.before = a[1];
        f.most = a[2];
        f.beside = a[3];
        return 0;
    }

    private int endOf(Showing s) {
        return s.begin + films.get(s.film).minutes;
    }

    private int townOf(Showing s) {
        return halls.get(s.hall).town();
    }

    private List<Showing> there() {
        return showings.stream().filter(s -> s.there).collect(Collectors.toList());
    }

    private boolean atOnce(Showing s, Showing o) {
        return townOf(s) == townOf(o) && o.begin < endOf(s) && endOf(o) > s.begin;
    }

    private int why(int[] a) {
        if (out(a[2], 0, 14399) || out(a[3], 0, 2)) return -1;
        if (noFilm(a[0]) || noHall(a[1])) return -2;
        Showing s = new Showing();
        s.film = a[0];
        s.hall = a[1];
        s.begin = a[2];
        s.sort = a[3];
        return why(s, there());
    }

    private int why(Showing s, List<Showing> others) {
        Film f = films.get(s.film);
        Hall h = halls.get(s.hall);
        int end = endOf(s);
        if (end > 14400) return 1;
        if ((h.formats() & (1 << f.format)) == 0) return 2;
        if (others.stream().anyMatch(o -> o.hall == s.hall && o.begin < end + h.clear()
                && endOf(o) + h.clear() > s.begin)) return 3;
        for (Showing o : others) {
            if (o.film != s.film) continue;
            if (o.begin == s.begin) return 4;
            Showing earlier = o.begin < s.begin ? o : s;
            Showing later = earlier == o ? s : o;
            if (later.begin < endOf(earlier) + ways[townOf(s)][townOf(o)]) return 4;
        }
        if (s.sort == 1 && (f.from == -1 || s.begin < f.from || end > f.to)) return 5;
        if (s.sort == 2 && s.begin % 1440 >= 120 && s.begin % 1440 < 1320) return 6;
        if (s.begin < f.before) return 7;
        if (f.most < 60 && others.stream().filter(o -> o.film == s.film).count() + 1 > f.most) return 8;
        for (Showing o : others) {
            if ((f.beside == o.film || films.get(o.film).beside == s.film) && atOnce(s, o)) return 9;
        }
        return 0;
    }

    private int put(int[] a) {
        int why = why(a);
        if (why < 0) return why;
        if (why > 0) return -3;
        if (showings.size() == 60) return -5;
        Showing s = new Showing();
        s.film = a[0];
        s.hall = a[1];
        s.begin = a[2];
        s.sort = a[3];
        showings.add(s);
        return showings.size() - 1;
    }

    private int take(int s) {
        if (noShowing(s)) return -2;
        showings.get(s).there = false;
        return 0;
    }

    private int crowd(Showing s, List<Showing> all) {
        int beside = 0;
        for (Showing o : all) {
            if (o != s && atOnce(s, o)) beside++;
        }
        return films.get(s.film).fame * parts[s.begin % 1440 / 60] / 100 / (1 + beside);
    }

    private int worth(Showing s, List<Showing> all) {
        return Math.min(crowd(s, all), halls.get(s.hall).seats());
    }

    private int grid() {
        List<Showing> all = there();
        return all.stream().mapToInt(s -> worth(s, all)).sum();
    }

    /** Known ones are kept for one question: the two ways back from each showing would double and double. */
    private int trueBegin(Showing s) {
        return trueBegin(s, new HashMap<>());
    }

    private int trueBegin(Showing s, Map<Showing, Integer> known) {
        if (known.containsKey(s)) return known.get(s);
        int t = s.begin;
        Showing inHall = latest(there().stream().filter(o -> o.hall == s.hall && o.begin < s.begin));
        Showing ofFilm = latest(there().stream().filter(o -> o.film == s.film && o.begin < s.begin));
        if (inHall != null) t = Math.max(t, trueEnd(inHall, known) + halls.get(s.hall).clear());
        if (ofFilm != null) t = Math.max(t, trueEnd(ofFilm, known) + ways[townOf(ofFilm)][townOf(s)]);
        known.put(s, t);
        return t;
    }

    private static Showing latest(Stream<Showing> some) {
        return some.max(Comparator.comparingInt(o -> o.begin)).orElse(null);
    }

    private int trueEnd(Showing s, Map<Showing, Integer> known) {
        return trueBegin(s, known) + films.get(s.film).minutes + s.delay;
    }

    private int of(int n, int what) {
        if (noShowing(n)) return -1;
        Showing s = showings.get(n);
        switch (what) {
            case 0: return s.film;
            case 1: return s.hall;
            case 2: return s.begin;
            case 3: return s.sort;
            case 4: return endOf(s);
            case 5: return crowd(s, there());
            case 6: return worth(s, there());
            case 7: return trueBegin(s);
            case 8: return trueEnd(s, new HashMap<>());
            default: return -1;
        }
    }

    private int part(int[] a) {
        if (out(a[0], 0, 23) || out(a[1], 0, 300)) return -1;
        parts[a[0]] = a[1];
        return 0;
    }

    private int hour(int minute) {
        if (out(minute, 0, 14399)) return -1;
        if (hours.size() == 10) return -5;
        hours.add(minute);
        return hours.size();
    }

    private int better() {
        int changes = 0;
        while (changes < 40 && change()) {
            changes++;
        }
        hours.clear();
        return changes;
    }

    private boolean change() {
        int best = grid();
        Showing which = null;
        int where = 0;
        int when = 0;
        for (Showing s : there()) {
            int hall = s.hall;
            int begin = s.begin;
            List<Integer> begins = new ArrayList<>(hours);
            begins.add(begin);
            for (int h = 0; h < halls.size(); h++) {
                for (int b : begins) {
                    s.hall = h;
                    s.begin = b;
                    List<Showing> others = there();
                    others.remove(s);
                    if (why(s, others) == 0 && grid() > best) {
                        best = grid();
                        which = s;
                        where = h;
                        when = b;
                    }
                }
            }
            s.hall = hall;
            s.begin = begin;
        }
        if (which == null) return false;
        which.hall = where;
        which.begin = when;
        return true;
    }

    private int come(int[] a) {
        if (out(a[1], -40, 10) || out(a[2], 0, 1000)) return -1;
        if (noShowing(a[0])) return -2;
        showings.get(a[0]).come[a[1] + 40] = a[2];
        return 0;
    }

    private int doors(int many) {
        if (out(many, 1, 500)) return -1;
        int was = doors;
        doors = many;
        return was;
    }

    private int delay(int[] a) {
        if (out(a[1], 0, 300)) return -1;
        if (noShowing(a[0])) return -2;
        showings.get(a[0]).delay = a[1];
        return 0;
    }

    private int queue(int[] a) {
        if (noShowing(a[0]) || out(a[1], -40, 400) || out(a[2], 0, 2)) return -1;
        Showing s = showings.get(a[0]);
        int begins = trueBegin(s);
        int come = 0;
        int in = 0;
        for (int minute = s.begin - 40; minute <= s.begin + a[1]; minute++) {
            if (minute <= s.begin + 10) come += s.come[minute - s.begin + 40];
            for (int i = 0; i < doors && minute >= begins - 30 && minute <= begins + 10; i++) {
                if (in < come && in < halls.get(s.hall).seats()) in++;
            }
        }
        return a[2] == 0 ? in : a[2] == 1 ? come - in : come;
    }

    private int juror(int age) {
        if (out(age, 0, 120)) return -1;
        if (jurors.size() == 10) return -5;
        Juror j = new Juror();
        j.age = age;
        jurors.add(j);
        return jurors.size() - 1;
    }

    private int vote(int[] a) {
        if (noJuror(a[0]) || noFilm(a[1])) return -2;
        List<Integer> votes = jurors.get(a[0]).votes;
        if (votes.contains(a[1])) return -4;
        if (votes.size() == 5) return -5;
        votes.add(a[1]);
        return votes.size();
    }

    private int clear(int j) {
        if (noJuror(j)) return -2;
        int many = jurors.get(j).votes.size();
        jurors.get(j).votes.clear();
        return many;
    }

    private int row(int[] a) {
        if (out(a[0], 0, 1) || out(a[3], 0, 100000)) return -1;
        if (noJuror(a[1]) || noFilm(a[2])) return -2;
        if (rows.size() == 100) return -5;
        rows.add(new Row(a[0], a[1], a[2], a[3]));
        return rows.size();
    }

    private int feed(int[] a) {
        if (tape.size() > 280) return -1;
        for (int four : a) {
            for (byte b : java.nio.ByteBuffer.allocate(4).putInt(four).array()) {
                tape.add(b & 255);
            }
        }
        return tape.size();
    }

    private int end(int n) {
        if (n < 0 || n > tape.size()) return -1;
        while (tape.size() > n) {
            tape.remove(tape.size() - 1);
        }
        return n;
    }

    private int rules() {
        StringBuilder text = new StringBuilder();
        tape.forEach(b -> text.append((char) (int) b));
        tape.clear();
        try {
            rules = ModelRules.of(text.toString());
            fault = -1;
            return 0;
        } catch (ModelRules.Fault f) {
            fault = f.place;
            return -6;
        }
    }

    private boolean countsFor(int j, int f, int known) {
        return jurors.get(j).votes.contains(f) && rules.cond.holds(jurors.get(j).age,
                rows.stream().anyMatch(r -> r.sort() == 0 && r.juror() == j && r.film() == f && r.known() <= known),
                rows.stream().anyMatch(r -> r.sort() == 1 && r.juror() == j && r.film() == f && r.known() <= known));
    }

    private int counts(int[] a) {
        if (out(a[2], 0, 100000)) return -1;
        if (noJuror(a[0]) || noFilm(a[1])) return -2;
        if (rules == null) return -6;
        return countsFor(a[0], a[1], a[2]) ? 1 : 0;
    }

    private int prize(int known) {
        if (out(known, 0, 100000)) return -1;
        if (rules == null) return -6;
        List<List<Integer>> lists = new ArrayList<>();
        for (int j = 0; j < jurors.size(); j++) {
            int juror = j;
            lists.add(jurors.get(j).votes.stream().filter(f -> countsFor(juror, f, known)).collect(Collectors.toList()));
        }
        List<Integer> running = lists.stream().flatMap(List::stream).distinct().sorted().collect(Collectors.toList());
        rounds = new ArrayList<>();
        if (running.isEmpty()) return -6;
        int[] firsts = new int[20];
        lists.stream().filter(l -> !l.isEmpty()).forEach(l -> firsts[l.get(0)]++);
        Comparator<Integer> order = Comparator.naturalOrder();
        if (rules.tie.equals("fame")) order = Comparator.comparing((Integer f) -> -films.get(f).fame).thenComparing(order);
        if (rules.tie.equals("first")) order = Comparator.comparing((Integer f) -> -firsts[f]).thenComparing(order);
        while (true) {
            int[] sums = new int[20];
            java.util.Arrays.fill(sums, -1);
            running.forEach(f -> sums[f] = 0);
            int given = 0;
            for (List<Integer> list : lists) {
                if (rules.points == null) {
                    List<Integer> left = list.stream().filter(running::contains).collect(Collectors.toList());
                    if (!left.isEmpty()) {
                        sums[left.get(0)]++;
                        given++;
                    }
                } else {
                    for (int i = 0; i < list.size() && i < rules.points.size(); i++) {
                        sums[list.get(i)] += rules.points.get(i);
                    }
                }
            }
            rounds.add(sums);
            running.sort(Comparator.comparing((Integer f) -> -sums[f]).thenComparing(order));
            if (rules.points != null || sums[running.get(0)] > given / 2.0) return running.get(0);
            running.remove(running.size() - 1);
        }
    }

    private int round(int k, int film) {
        if (rounds == null) return -1;
        if (k == -1) return rounds.size();
        return out(k, 0, rounds.size() - 1) || out(film, 0, 19) ? -1 : rounds.get(k)[film];
    }

    private int count(int what) {
        switch (what) {
            case 0: return halls.size();
            case 1: return films.size();
            case 2: return there().size();
            case 3: return showings.size();
            case 4: return jurors.size();
            case 5: return rows.size();
            case 6: return hours.size();
            case 7: return tape.size();
            case 8: return rules == null ? -1 : rules.points == null ? 0 : rules.points.size();
            default: return -1;
        }
    }
}
