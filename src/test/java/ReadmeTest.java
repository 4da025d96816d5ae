import java.io.IOException;
import java.nio.file.Files;
import java.nio.file.Path;
import java.util.regex.Matcher;
import java.util.regex.Pattern;

/** The calls that README.md shows, each answered as its comment there says. */
public final class ReadmeTest extends Check {
    private static final Pattern MADE = Pattern.compile("MacroExpand x = new MacroExpand\\((\\d+)\\);.*");
    private static final Pattern CALL = Pattern.compile("x\\.(\\w+)\\((.*)\\);\\s+// (-?\\d+).*");

    public static void main(String[] args) throws IOException {
        MacroExpand x = null;
        int calls = 0;
        boolean inJava = false;
        for (String line : Files.readAllLines(Path.of("README.md"))) {
            if (line.startsWith("```")) {
                inJava = line.equals("```java");
                continue;
            }
            if (!inJava) {
                continue;
            }
            Matcher made = MADE.matcher(line);
            Matcher call = CALL.matcher(line);
            if (made.matches()) {
                x = new MacroExpand(Long.parseLong(made.group(1)));
            } else if (x != null && call.matches()) {
                same("README.md: " + line, answer(x, call.group(1), call.group(2)), Integer.parseInt(call.group(3)));
                calls++;
            } else {
                same("README.md, no call with its answer: " + line, 1, 0);
            }
        }
        same("README.md shows calls", calls > 0 ? 1 : 0, 1);
        finish();
    }

    private static int answer(MacroExpand x, String call, String told) {
        String[] parts = told.split(", ");
        return switch (call) {
            case "define" -> x.define(number(parts[0]), number(parts[1]), number(parts[2]));
            case "body" -> x.body(number(parts[0]), number(parts[1]));
            case "delimiter" -> x.delimiter(number(parts[0]), number(parts[1]), number(parts[2]));
            case "token" -> x.token(number(told));
            case "expand" -> x.expand(told.equals("true"));
            case "at" -> x.at(number(told));
            case "fault" -> x.fault(number(told));
            case "group" -> x.group(told.equals("true"));
            case "traced" -> x.traced(number(parts[0]), number(parts[1]));
            case "input" -> x.input(number(told));
            case "macro" -> x.macro(number(told));
            default -> throw new IllegalArgumentException(call);
        };
    }

    private static int number(String text) {
        return text.startsWith("'") ? text.charAt(1) : Integer.parseInt(text);
    }
}
