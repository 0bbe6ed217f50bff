import java.nio.file.Files;
import java.nio.file.Path;
import java.util.Arrays;
import java.util.HashMap;
import java.util.Map;
import java.util.regex.Matcher;
import java.util.regex.Pattern;

/** Makes the calls of README.md's Java, line by line, on one object. Run from the project's folder. */
public final class ReadmeTest {
    private static final String MADE = "FilmWeeks weeks = new FilmWeeks();";
    private static final Pattern CALL =
            Pattern.compile("(?:int (\\w+) = )?weeks\\.(\\w+)\\(([^)]*)\\); *// (-?\\d+)(?::.*)?");

    private final Due due = new Due("ReadmeTest");
    private final Map<String, Integer> told = new HashMap<>();
    private FilmWeeks weeks = null;

    public static void main(String[] args) throws Exception {
        new ReadmeTest().readme(Files.readString(Path.of("README.md")));
    }

    private void readme(String text) throws Exception {
        Matcher block = Pattern.compile("(?s)```java\n(.*?)```").matcher(text);
        while (block.find()) {
            for (String line : block.group(1).split("\n")) {
                if (line.equals(MADE)) {
                    weeks = new FilmWeeks();
                } else {
                    call(line);
                }
            }
        }
        due.end();
    }

    private void call(String line) throws Exception {
        Matcher m = CALL.matcher(line);
        if (!m.matches() || weeks == null) {
            due.holds("a call with its answer: " + line, false);
            return;
        }
        Object[] numbers = m.group(3).isEmpty() ? new Object[0]
                : Arrays.stream(m.group(3).split(", ")).map(this::number).toArray();
        Class<?>[] types = new Class<?>[numbers.length];
        Arrays.fill(types, int.class);
        int answer = (int) FilmWeeks.class.getMethod(m.group(2), types).invoke(weeks, numbers);
        due.is(line, answer, Integer.parseInt(m.group(4)));
        if (m.group(1) != null) {
            told.put(m.group(1), answer);
        }
    }

    private Integer number(String argument) {
        return told.containsKey(argument) ? told.get(argument) : Integer.decode(argument);
    }
}
