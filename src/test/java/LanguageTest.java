import java.io.IOException;
import java.nio.file.Files;
import java.nio.file.Path;
import java.util.Arrays;
import java.util.List;
import java.util.regex.Matcher;
import java.util.regex.Pattern;

/** What can be read of the rules of LANGUAGE.md from the program's text; it runs in the project's directory. */
public final class LanguageTest {
    private static final String[][] RULED_OUT = {
        {"1", "^\\s*package\\b"},
        {"1", "private [\\w\\[\\]]+ (begin|end|say|clear|pages|cell|page|line|find|node|about)\\("},
        {"2", "->|::"},
        {"3", "\\b(Map|Set|Object|Long|Double|var|BigInteger|Optional)\\b"},
        {"4", "Exact\\b|\\bSystem\\.(?!arraycopy\\b)|\\bArrays\\.(?!copyOf\\b|copyOfRange\\b|fill\\b)"},
        {"5", "\\bstatic (?!final\\b)[\\w\\[\\]]+ \\w+( =|;)|\\bstatic \\{"},
        {"6", "\\b(try|catch|finally|synchronized|assert|extends)\\b|throw (?!new Illegal(State|Argument)Exception\\()"},
        {"10", "\" \\+|\\+ \""},
        {"13", "\\b(Thread|Random|Math\\.random|currentTimeMillis|nanoTime|getenv)\\b"},
    };
    private static final Pattern METHOD = Pattern.compile("^( {4,8})(?!return|else|new)[\\w\\[\\] ]*\\b\\w+\\(([^()]*)\\)[^;]*\\{$");

    public static void main(String[] args) throws IOException {
        List<String> lines = Files.readAllLines(Path.of("src/main/java/ProsePages.java"));
        for (int i = 0; i < lines.size(); i++) {
            String line = withoutComments(lines.get(i));
            for (String[] rule : RULED_OUT) {
                Check.due("rule " + rule[0] + ", line " + (i + 1), Pattern.compile(rule[1]).matcher(line).find(), false);
            }
            lookAtMethod(lines, i);
        }
        Check.due("imports", lines.stream().filter(line -> line.startsWith("import ")).toList(),
            Arrays.asList("import java.util.Arrays;"));
        long classes = lines.stream().filter(line -> line.matches(".*\\b(class|interface|enum|record) [A-Z].*\\{")).count();
        Check.due("rule 11: at most twelve classes", classes <= 12, true);
        Check.done();
    }

    private static String withoutComments(String line) {
        return line.matches("\\s*(/\\*\\*|\\*|//).*") ? "" : line;
    }

    private static void lookAtMethod(List<String> lines, int at) {
        Matcher method = METHOD.matcher(lines.get(at));
        if (!method.find() || lines.get(at).contains(" class ")) {
            return;
        }
        String parameters = method.group(2);
        Check.due("rule 11: parameters, line " + (at + 1), parameters.split(",").length <= 7, true);
        String close = method.group(1) + "}";
        int end = at;
        while (end < lines.size() && !lines.get(end).equals(close)) {
            end++;
        }
        Check.due("rule 11: length, line " + (at + 1), end - at <= 60, true);
    }
}
