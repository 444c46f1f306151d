import java.io.IOException;
import java.nio.file.Files;
import java.nio.file.Path;
import java.util.ArrayList;
import java.util.List;
import java.util.regex.Matcher;
import java.util.regex.Pattern;

/** The examples of README.md are done as they stand there, so that they can't go stale. */
public final class ReadmeTest {
    private static final Pattern CALL = Pattern.compile("x\\.(\\w+)\\(([^)]*)\\);\\s*(?:// (.*))?");
    private static final Pattern ANSWER = Pattern.compile("-> (-?\\w+).*");

    public static void main(String[] args) throws IOException {
        Check check = new Check();
        QueuedFronts x = null;
        int examples = 0;
        for (String line : exampleLines()) {
            if (line.equals("QueuedFronts x = new QueuedFronts();")) {
                x = new QueuedFronts();
                examples++;
            } else {
                doLine(check, x, line);
            }
        }
        check.due("examples in README.md", examples, 3);
        check.finish();
    }

    private static List<String> exampleLines() throws IOException {
        List<String> lines = new ArrayList<>();
        boolean inside = false;
        for (String line : Files.readAllLines(Path.of("README.md"))) {
            if (line.startsWith("```")) {
                inside = line.equals("```java");
            } else if (inside) {
                lines.add(line);
            }
        }
        return lines;
    }

    private static void doLine(Check check, QueuedFronts x, String line) {
        Matcher call = CALL.matcher(line);
        if (!call.matches()) {
            check.due("a line of README.md", line, "a call");
            return;
        }
        String got = answer(x, call.group(1), numbers(call.group(2)));
        Matcher due = ANSWER.matcher(call.group(3) == null ? "" : call.group(3));
        // Where the example tells no answer, the call must at least not be refused.
        String want = due.matches() ? due.group(1) : call.group(1).equals("mark") ? "" : "true";
        check.due(line, got, want);
    }

    private static int[] numbers(String arguments) {
        if (arguments.isEmpty()) {
            return new int[0];
        }
        String[] parts = arguments.split(", ");
        int[] numbers = new int[parts.length];
        for (int i = 0; i < parts.length; i++) {
            numbers[i] = number(parts[i]);
        }
        return numbers;
    }

    /** A number, true, or shifted numbers joined by |. */
    private static int number(String text) {
        if (text.equals("true")) {
            return 1;
        }
        int all = 0;
        for (String part : text.split(" \\| ")) {
            String[] sides = part.split(" << ");
            int value = Integer.parseInt(sides[0]);
            all |= sides.length == 2 ? value << Integer.parseInt(sides[1]) : value;
        }
        return all;
    }

    private static String answer(QueuedFronts x, String name, int[] n) {
        switch (name) {
            case "code": return "" + x.code(n[0], n[1], n[2]);
            case "go": return "" + x.go(n[0], n[1], n[2] == 1);
            case "interrupt": return "" + x.interrupt();
            case "run": return "" + x.run(n[0]);
            case "state": return "" + x.state(n[0]);
            case "register": return "" + x.register(n[0]);
            case "count": return "" + x.count(n[0]);
            case "back": return "" + x.back();
            case "mark":
                x.mark();
                return "";
            default: return "no call of the examples";
        }
    }
}
