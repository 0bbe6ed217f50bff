import java.util.ArrayList;
import java.util.List;
import java.util.regex.Matcher;
import java.util.regex.Pattern;

/** RULES of the model: all TOKENS first, then a tree of conditions. */
final class ModelRules {
    static final class Fault extends Exception {
        private static final long serialVersionUID = 1L;
        final int place;

        Fault(int place) {
            this.place = place;
        }
    }

    interface Cond {
        boolean holds(int age, boolean saw, boolean kin);
    }

    private record Token(String text, int place) { }

    Cond cond;
    List<Integer> points = null;
    String tie;
    private final List<Token> tokens = new ArrayList<>();
    private int at = 0;

    static ModelRules of(String text) throws Fault {
        ModelRules r = new ModelRules();
        Matcher m = Pattern.compile("[a-z]+|[0-9]+|[^ ]", Pattern.DOTALL).matcher(text);
        while (m.find()) {
            r.tokens.add(new Token(m.group(), m.start()));
        }
        r.tokens.add(new Token("", text.length()));
        r.want("count");
        r.cond = r.or(0);
        r.want(";");
        r.manner();
        r.want(";");
        r.want("tie");
        r.tie = r.next();
        if (!List.of("fame", "film", "first").contains(r.tie)) {
            throw r.fault();
        }
        r.at++;
        r.want("");
        return r;
    }

    private String next() {
        return tokens.get(at).text();
    }

    private Fault fault() {
        return new Fault(tokens.get(at).place());
    }

    private void want(String text) throws Fault {
        if (!next().equals(text)) {
            throw fault();
        }
        at++;
    }

    private boolean isNumber() {
        return next().matches("[0-9]+");
    }

    private int number() throws Fault {
        if (!isNumber() || new java.math.BigInteger(next()).compareTo(java.math.BigInteger.valueOf(1000)) > 0) {
            throw fault();
        }
        return new java.math.BigInteger(tokens.get(at++).text()).intValue();
    }

    private void manner() throws Fault {
        if (next().equals("rounds")) {
            at++;
            return;
        }
        want("points");
        points = new ArrayList<>();
        do {
            if (points.size() == 5) {
                throw fault();
            }
            points.add(number());
        } while (isNumber());
    }

    private Cond or(int depth) throws Fault {
        Cond left = and(depth);
        while (next().equals("or")) {
            at++;
            Cond a = left;
            Cond b = and(depth);
            left = (age, saw, kin) -> a.holds(age, saw, kin) || b.holds(age, saw, kin);
        }
        return left;
    }

    private Cond and(int depth) throws Fault {
        Cond left = not(depth);
        while (next().equals("and")) {
            at++;
            Cond a = left;
            Cond b = not(depth);
            left = (age, saw, kin) -> a.holds(age, saw, kin) && b.holds(age, saw, kin);
        }
        return left;
    }

    private Cond not(int depth) throws Fault {
        String word = next();
        if ((word.equals("not") || word.equals("(")) && depth == 8) {
            throw fault();
        }
        switch (word) {
            case "not": {
                at++;
                Cond inner = not(depth + 1);
                return (age, saw, kin) -> !inner.holds(age, saw, kin);
            }
            case "(": {
                at++;
                Cond inner = or(depth + 1);
                want(")");
                return inner;
            }
            case "saw":
                at++;
                return (age, saw, kin) -> saw;
            case "kin":
                at++;
                return (age, saw, kin) -> kin;
            case "old": {
                at++;
                int years = number();
                return (age, saw, kin) -> age >= years;
            }
            default:
                throw fault();
        }
    }
}
