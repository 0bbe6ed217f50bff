import java.nio.file.Files;
import java.nio.file.Path;
import java.util.List;
import java.util.regex.Matcher;
import java.util.regex.Pattern;

/** Those rules of LANGUAGE.md that can be seen in the text of the class. Run from the project's folder. */
public final class LanguageTest {
    private static final Due due = new Due("LanguageTest");

    public static void main(String[] args) throws Exception {
        String source = Files.readString(Path.of("src/main/java/FilmWeeks.java"));
        String code = source.replaceAll("(?s)/\\*.*?\\*/", " ").replaceAll("//[^\n]*", " ")
                .replaceAll("\"[^\"\n]*\"", "\"\"").replaceAll("'[^'\n]*'", "' '");
        List<String> never = List.of("throw", "throws", "try", "catch", "finally", "synchronized", "assert", "protected",
                "package", "var", "volatile", "native", "Object", "System\\.out", "Math\\.\\w+Exact", "currentTimeMillis",
                "nanoTime", "Random", "Thread", "hashCode", "toString", "String\\.format");
        for (String word : never) {
            due.holds("no " + word, !Pattern.compile("\\b" + word + "\\b").matcher(code).find());
        }
        due.holds("no lambda or method reference", !code.contains("->") && !code.contains("::"));
        due.holds("no texts joined by +", !code.contains("\"\" +") && !code.contains("+ \"\""));
        imports(code);
        classes(code);
        methods(code);
        due.end();
    }

    private static void imports(String code) {
        Matcher m = Pattern.compile("import ([\\w.*]+);").matcher(code);
        while (m.find()) {
            due.holds("import of " + m.group(1),
                    List.of("java.util.Arrays", "java.util.ArrayList", "java.util.List").contains(m.group(1)));
        }
    }

    private static void classes(String code) {
        Matcher m = Pattern.compile("([\\w ]*)\\b(class|record|enum|interface) (\\w+)").matcher(code);
        int many = 0;
        while (m.find()) {
            many++;
            boolean outer = m.group(3).equals("FilmWeeks");
            due.holds(m.group(3) + " is the face or private and static",
                    outer || m.group(1).trim().startsWith("private static"));
        }
        due.holds("at most twelve classes: " + many, many <= 12);
        Matcher fields = Pattern.compile("\\bstatic (?!final)(?!boolean \\w+\\()(?!int \\w+\\()").matcher(code);
        due.holds("static fields are final", !fields.find());
    }

    private static void methods(String code) {
        String[] lines = code.split("\n");
        Pattern head = Pattern.compile("^( {4}| {8})(public |private |static )*(int|boolean|void|[A-Z]\\w+)? ?\\w+\\(([^)]*)\\) \\{$");
        for (int i = 0; i < lines.length; i++) {
            Matcher m = head.matcher(lines[i]);
            if (!m.matches()) {
                continue;
            }
            int last = i;
            while (!lines[last].equals(m.group(1) + "}")) {
                last++;
            }
            due.holds("short: " + lines[i].trim(), last - i <= 60);
            due.holds("at most seven parameters: " + lines[i].trim(), m.group(4).split(",").length <= 7);
        }
    }
}
