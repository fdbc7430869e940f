import java.io.IOException;
import java.lang.reflect.Method;
import java.lang.reflect.Modifier;
import java.nio.file.Files;
import java.nio.file.Path;
import java.util.List;
import java.util.Set;
import java.util.TreeSet;
import java.util.regex.Matcher;
import java.util.regex.Pattern;

/** Runs the examples of README.md: each answers what the README says, and none is left out. */
public final class ReadmeTest {
    private static final Pattern CALL =
        Pattern.compile("q\\.(\\w+)\\((.*)\\); +// (-?\\d+|true|false): .*");
    private static final Pattern TYPED = Pattern.compile("type\\(q, \"(.*)\"\\);");
    private static final Pattern ROW = Pattern.compile(
        "\\| `(.+)` \\| (nothing|[a-f]\\d(?: [a-f]\\d)*|ill at \\d+|unknown at \\d+) \\|");
    private static final List<String> NAMES = List.of("a1", "a2", "b2", "c3");

    public static void main(String[] args) throws IOException, ReflectiveOperationException {
        Check check = new Check();
        List<String> lines = Files.readAllLines(Path.of("README.md"));
        Set<String> called = calls(check, lines);
        for (Method m : GraphQuery.class.getDeclaredMethods()) {
            if (Modifier.isPublic(m.getModifiers())) {
                check.same("the example calls " + m.getName(), called.contains(m.getName()), true);
                check.same("the table tells " + m.getName(), tells(lines, m.getName()), true);
            }
        }
        texts(check, lines);
        tests(check, lines);
        check.end("ReadmeTest");
    }

    private static Set<String> calls(Check check, List<String> lines)
            throws ReflectiveOperationException {
        GraphQuery q = new GraphQuery();
        Set<String> called = new TreeSet<>();
        for (String line : lines) {
            Matcher typed = TYPED.matcher(line);
            if (typed.matches()) {
                for (char c : typed.group(1).toCharArray()) {
                    check.same("type '" + c + "'", q.type(c), true);
                }
            } else if (line.startsWith("q.")) {
                Matcher call = CALL.matcher(line);
                check.same("an answer stands behind " + line, call.matches(), true);
                if (call.matches()) {
                    called.add(call.group(1));
                    check.same(line, call(q, call.group(1), call.group(2)), number(call.group(3)));
                }
            }
        }
        return called;
    }

    private static long call(GraphQuery q, String name, String args)
            throws ReflectiveOperationException {
        for (Method m : GraphQuery.class.getDeclaredMethods()) {
            if (m.getName().equals(name)) {
                return number(m.invoke(q, values(args, m.getParameterTypes())).toString());
            }
        }
        throw new IllegalArgumentException("no call " + name);
    }

    private static Object[] values(String args, Class<?>[] types) {
        String[] parts = args.isEmpty() ? new String[0] : args.split(", ");
        Object[] values = new Object[parts.length];
        for (int i = 0; i < parts.length; i++) {
            int value = Integer.parseInt(parts[i].replace("(char) ", ""));
            if (types[i] == char.class) {
                values[i] = (char) value;
            } else {
                values[i] = value;
            }
        }
        return values;
    }

    private static long number(String answer) {
        return answer.equals("true") ? 1 : answer.equals("false") ? 0 : Long.parseLong(answer);
    }

    private static boolean tells(List<String> lines, String name) {
        return lines.stream().anyMatch(line -> line.startsWith("| `" + name + "("));
    }

    // A new graph for each text: all of them on one object would be too many calls.
    private static void texts(Check check, List<String> lines)
            throws ReflectiveOperationException {
        int rows = 0;
        for (String line : lines) {
            Matcher row = ROW.matcher(line);
            if (row.matches()) {
                rows++;
                text(check, graph(lines), row.group(1), row.group(2));
            }
        }
        check.same("texts with their lists", rows, 22);
    }

    private static void text(Check check, GraphQuery q, String text, String due) {
        if (due.startsWith("ill at ")) {
            check.ill(q, text, Integer.parseInt(due.substring(7)));
        } else if (due.startsWith("unknown at ")) {
            check.unknown(q, text, Integer.parseInt(due.substring(11)));
        } else if (due.equals("nothing")) {
            check.list(q, text);
        } else {
            String[] names = due.split(" ");
            int[] numbers = new int[names.length];
            for (int i = 0; i < names.length; i++) {
                numbers[i] = NAMES.indexOf(names[i]);
            }
            check.list(q, text, numbers);
        }
    }

    private static GraphQuery graph(List<String> lines) throws ReflectiveOperationException {
        GraphQuery q = new GraphQuery();
        for (String line : lines) {
            Matcher call = CALL.matcher(line);
            if (call.matches() && List.of("target", "needs").contains(call.group(1))) {
                call(q, call.group(1), call.group(2));
            }
        }
        return q;
    }

    private static void tests(Check check, List<String> lines) throws IOException {
        try (var files = Files.list(Path.of("src/test/java"))) {
            for (Path file : files.sorted().toList()) {
                String name = file.getFileName().toString().replace(".java", "");
                if (name.endsWith("Test")) {
                    boolean told = lines.stream().anyMatch(l -> l.startsWith("| `" + name + "` |"));
                    check.same("the README tells " + name, told, true);
                }
            }
        }
    }
}
