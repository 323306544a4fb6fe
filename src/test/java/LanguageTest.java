import java.io.IOException;
import java.nio.file.Files;
import java.nio.file.Path;
import java.util.ArrayList;
import java.util.List;
import java.util.regex.Matcher;
import java.util.regex.Pattern;

/** The rules of LANGUAGE.md that the words of the source show; the others are for a reader. */
final class LanguageTest {
    private static final Checks CHECKS = new Checks("the language");
    private static final Path SOURCE = Path.of("src/main/java/ValueTexts.java");
    private static final Pattern METHOD =
            Pattern.compile("^ +(public |private |static )*(?!return|new|else|public|private)[\\w\\[\\]]+ (\\w+)\\(([^)]*)\\) \\{$");
    private static final Pattern FACE = Pattern.compile("feed|end|read|write|top|item|find|look|bytes|octet");

    public static void main(String[] args) throws IOException {
        String source = Files.readString(SOURCE);
        // A word in a comment, or a sign in a character, is no part of the program.
        String program = source.replaceAll("(?s)/\\*.*?\\*/", "").replaceAll("//[^\\n]*", "").replaceAll("'[^'\\n]+'|'\\\\.'", "0");

        none(program, "no package, and no library by name", "\\b(package|import|java\\.)");
        none(program, "rule 2, no lambda, no method reference", "->|::");
        none(program, "rule 3, no doubles, no boxes, no lists", "\\b(double|float|Object|Long|Map|Set|List|ArrayList)\\b");
        none(program, "rule 5, no static state that changes", "\\bstatic (?!final\\b|boolean \\w+\\(|int \\w+\\()");
        none(program, "rule 6, no exceptions", "\\b(throw|throws|try|catch|finally|synchronized|assert)\\b");
        none(program, "rule 6, nothing of objects themselves", "\\b(toString|hashCode|equals|getClass|instanceof)\\b");
        none(program, "rule 10, no texts joined by +", "\"\\s*\\+|\\+\\s*\"");
        none(program, "rule 13, nothing from outside", "\\b(System|Thread|Math\\.random)\\b");
        none(source, "rule 3, ASCII alone", "[^\\n -~]");
        CHECKS.due("rule 11, at most twelve classes", count(program, "\\bclass \\w+") <= 12 ? 1 : 0, 1);
        methods(List.of(program.split("\n")));
        CHECKS.finish();
    }

    private static void none(String program, String rule, String pattern) {
        Matcher matcher = Pattern.compile(pattern).matcher(program);
        CHECKS.due(rule, matcher.find() ? matcher.group() : "none", "none");
    }

    private static long count(String program, String pattern) {
        return Pattern.compile(pattern).matcher(program).results().count();
    }

    private static void methods(List<String> lines) {
        List<String> names = new ArrayList<>();
        for (int i = 0; i < lines.size(); i++) {
            Matcher method = METHOD.matcher(lines.get(i));
            if (method.matches()) {
                String name = method.group(2);
                names.add(name);
                boolean isPublic = lines.get(i).contains("public ");
                CHECKS.due("rule 1, the name of " + name, isPublic == FACE.matcher(name).matches() ? 1 : 0, 1);
                CHECKS.due("rule 11, parameters of " + name, method.group(3).split(",").length <= 7 ? 1 : 0, 1);
                CHECKS.due("rule 11, lines of " + name, length(lines, i) <= 60 ? 1 : 0, 1);
            }
        }
        CHECKS.due("the calls of the face among the methods", names.stream().filter(FACE.asMatchPredicate()).count(), 10);
    }

    /** To the line that closes the method, which stands as far to the right as its first. */
    private static int length(List<String> lines, int first) {
        String close = lines.get(first).replaceFirst("\\S.*", "}");
        int last = first;
        while (last < lines.size() && !lines.get(last).equals(close)) {
            last++;
        }
        return last - first + 1;
    }
}
