import java.io.IOException;
import java.lang.reflect.InvocationTargetException;
import java.lang.reflect.Method;
import java.nio.file.Files;
import java.nio.file.Path;
import java.util.ArrayList;
import java.util.Arrays;
import java.util.List;
import java.util.Set;
import java.util.TreeSet;
import java.util.regex.Matcher;
import java.util.regex.Pattern;

/** The example in README.md: each call answers what is written behind it; it runs in the project's directory. */
public final class ReadmeTest {
    private static final Pattern CALL = Pattern.compile("desk\\.(\\w+)\\((.*)\\); +// (-?\\w+).*");
    private static final int ROWS = 5;
    private static final int COLUMNS = 12;

    private final ProsePages desk = new ProsePages();
    private final Set<String> called = new TreeSet<>();
    private final List<String> seen = new ArrayList<>();

    public static void main(String[] args) throws IOException, IllegalAccessException {
        new ReadmeTest().run(Files.readString(Path.of("README.md")));
        Check.done();
    }

    private void run(String readme) throws IllegalAccessException {
        List<String> examples = fenced(readme, "java");
        Check.due("examples", examples.size(), 1);
        for (String line : String.join("\n", examples).split("\n")) {
            Matcher call = CALL.matcher(line);
            boolean isCall = call.matches();
            Check.due(line + ", is a call or makes the desk", isCall || line.startsWith("ProsePages desk"), true);
            if (isCall) {
                answer(line, methodNamed(call.group(1)), call.group(2), call.group(3));
            }
        }
        Set<String> face = new TreeSet<>();
        Arrays.stream(ProsePages.class.getMethods()).filter(m -> m.getDeclaringClass() == ProsePages.class)
            .forEach(m -> face.add(m.getName()));
        Check.due("methods in the example", called, face);
        Check.due("pages", seen, fenced(readme, "text"));
    }

    private void answer(String line, Method method, String arguments, String due) throws IllegalAccessException {
        called.add(method.getName());
        Object[] values = Arrays.stream(arguments.split(", ")).filter(a -> !a.isEmpty()).map(ReadmeTest::value).toArray();
        String got;
        try {
            got = String.valueOf(method.invoke(desk, values));
        } catch (InvocationTargetException e) {
            got = e.getCause().getClass().getSimpleName();
        }
        if (method.getReturnType() != void.class) {
            Check.due(line, got, due);
        }
        if (method.getName().equals("pages")) {
            look();
        }
    }

    private void look() {
        for (int page = 0; page < desk.about(3); page++) {
            StringBuilder all = new StringBuilder();
            for (int row = 0; row < ROWS; row++) {
                StringBuilder line = new StringBuilder();
                for (int column = 0; column < COLUMNS; column++) {
                    line.append((char) desk.cell(page, row, column));
                }
                all.append(line.toString().stripTrailing()).append("\n");
            }
            seen.add(all.toString().stripTrailing());
        }
    }

    private static Object value(String argument) {
        return argument.startsWith("'") ? (int) argument.charAt(1) : Integer.parseInt(argument);
    }

    private static Method methodNamed(String name) {
        return Arrays.stream(ProsePages.class.getMethods()).filter(m -> m.getName().equals(name)).findFirst().orElseThrow();
    }

    private static List<String> fenced(String readme, String language) {
        List<String> all = new ArrayList<>();
        Matcher block = Pattern.compile("```" + language + "\n(.*?)\n```", Pattern.DOTALL).matcher(readme);
        while (block.find()) {
            all.add(block.group(1));
        }
        return all;
    }
}
