import java.io.IOException;
import java.nio.file.Files;
import java.nio.file.Path;
import java.util.List;
import java.util.regex.Matcher;
import java.util.regex.Pattern;

/** Those rules of ../shared/LANGUAGE.md that the source's words alone can show to be broken. */
public final class RulesTest {
    private static final Path SOURCE = Path.of("src", "main", "java", "HazardTables.java");
    private static final String[] NOT_HERE = {"\\bpackage\\b", "\\bimport\\b", "\\bprotected\\b", "->", "::", "\\btry\\b",
        "\\bcatch\\b", "\\bfinally\\b", "\\bsynchronized\\b", "\\bassert\\b", "\\bdouble\\b", "\\bfloat\\b", "Exact\\b",
        "\\bSystem\\.(?!arraycopy)", "\\bThread\\b", "\\bequals\\b", "\\bhashCode\\b", "\\btoString\\b", "\\bgetMessage\\b",
        "\\bstatic *\\{", "\\[\\]\\[\\]\\["};
    private static final Pattern LOOSE_STATIC = Pattern.compile("\\bstatic (?!final\\b|class\\b)[\\w\\[\\]]+ \\w+ *[=;]");
    private static final Pattern THROWN = Pattern.compile("\\bthrow\\b(?! new (?:IllegalStateException|IllegalArgumentException"
            + "|IndexOutOfBoundsException|UnsupportedOperationException)\\(\"\"\\);)");
    private static final Pattern MADE = Pattern.compile("(?<!throw )\\bnew \\w+");
    private static final Pattern METHOD = Pattern.compile(
            "^( +)(?:(?:public|private|static|final) )*([\\w\\[\\]]+ )?(\\w+)\\(([^)]*)\\)[^;=]*\\{$");
    private static final int MOST_LINES = 60;
    private static final int MOST_PARAMETERS = 7;
    private static final int MOST_CLASSES = 12;

    public static void main(String[] args) throws IOException {
        String source = Files.readString(SOURCE);
        String code = withoutWords(source);
        for (String word : NOT_HERE) {
            Due.same("found " + word, false, Pattern.compile(word).matcher(code).find());
        }
        Due.same("a static field that is not final", false, LOOSE_STATIC.matcher(code).find());
        Due.same("a throw of another kind", false, THROWN.matcher(code).find());
        Due.same("not too many classes", true, Pattern.compile("\\bclass \\w+").matcher(code).results().count() <= MOST_CLASSES);
        methods(code.lines().toList());
        Due.end();
    }

    /** The code without its comments and the insides of its texts. */
    private static String withoutWords(String source) {
        return source.replaceAll("(?s)/\\*.*?\\*/", "").replaceAll("//[^\n]*", "").replaceAll("'.'", "0")
                .replaceAll("\"[^\"\n]*\"", "\"\"").replaceAll("\\)\\s+throws", ") throws");
    }

    private static void methods(List<String> lines) {
        int found = 0;
        for (int first = 0; first < lines.size(); first++) {
            Matcher head = METHOD.matcher(lines.get(first));
            if (!head.find() || lines.get(first).matches(" +(if|for|while|switch|else|do|return)\\b.*|.*\\belse if\\b.*")) {
                continue;
            }
            found++;
            int last = first;
            while (!lines.get(last).equals(head.group(1) + "}")) {
                last++;
            }
            String name = head.group(3);
            Due.same(name + " is short", true, last - first + 1 <= MOST_LINES);
            Due.same(name + " has few parameters", true, head.group(4).split(",").length <= MOST_PARAMETERS);
            boolean isConstructor = head.group(2) == null || head.group(2).matches("(public|private) ");
            if (!isConstructor) {
                String body = String.join("\n", lines.subList(first, last + 1));
                Due.same(name + " makes no object", false, MADE.matcher(body).find());
            }
        }
        Due.same("methods were found", true, found > 50);
    }
}
