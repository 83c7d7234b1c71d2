import java.io.IOException;
import java.nio.file.Files;
import java.nio.file.Path;
import java.util.ArrayList;
import java.util.List;
import java.util.regex.Matcher;
import java.util.regex.Pattern;

/** Plays the example of README.md: each line of it that tells an answer is called and must get that answer. */
public final class ReadmeTest {
    private static final Check CHECK = new Check();
    private static final Pattern CALL = Pattern.compile(
            "^(?:int (\\w+) = )?x\\.(\\w+)\\(([^)]*)\\);(?: *// (-?\\d+)?.*)?$");

    private final FixtureOrder x = new FixtureOrder();
    private final List<String> names = new ArrayList<>();
    private final List<Long> kept = new ArrayList<>();

    public static void main(String[] args) throws IOException {
        new ReadmeTest().play(exampleLines());
        CHECK.finish();
    }

    private static List<String> exampleLines() throws IOException {
        String text = Files.readString(Path.of("README.md"));
        int start = text.indexOf("```java\n") + "```java\n".length();
        return text.substring(start, text.indexOf("```", start)).lines().filter(line -> !line.isBlank()).toList();
    }

    private void play(List<String> lines) {
        CHECK.dueText("the first line", "FixtureOrder x = new FixtureOrder();", lines.get(0));
        int answersTold = 0;
        for (String line : lines.subList(1, lines.size())) {
            Matcher call = CALL.matcher(line);
            CHECK.due("'" + line + "' is a call", true, call.matches());
            if (call.matches()) {
                answersTold += call.group(4) == null ? 0 : 1;
                play(line, call);
            }
        }
        CHECK.due("lines that tell an answer", true, answersTold >= 12);
    }

    private void play(String line, Matcher call) {
        List<Long> arguments = new ArrayList<>();
        for (String argument : call.group(3).isEmpty() ? new String[0] : call.group(3).split(", ")) {
            arguments.add(valueOf(argument));
        }
        long answer = answerOf(call.group(2), arguments);
        if (call.group(4) != null) {
            CHECK.due(line, Long.parseLong(call.group(4)), answer);
        }
        if (call.group(1) != null) {
            names.add(call.group(1));
            kept.add(answer);
        }
    }

    private long valueOf(String argument) {
        if (names.contains(argument)) {
            return kept.get(names.indexOf(argument));
        }
        return argument.equals("true") ? 1 : argument.equals("false") ? 0 : Long.parseLong(argument);
    }

    private long answerOf(String method, List<Long> given) {
        int[] a = new int[4];
        for (int i = 0; i < given.size(); i++) {
            a[i] = (int) (long) given.get(i);
        }
        return switch (method) {
            case "fixture" -> x.fixture(a[0], a[1], a[2] == 1, a[3] == 1);
            case "needs" -> x.needs(a[0], a[1]);
            case "test" -> x.test(a[0]);
            case "uses" -> x.uses(a[0], a[1]) ? 1 : 0;
            case "takes" -> x.takes(a[0], a[1], a[2]) ? 1 : 0;
            case "fails" -> x.fails(a[0], a[1], a[2]) ? 1 : 0;
            case "run" -> x.run(a[0]);
            case "events" -> x.events();
            case "event" -> x.event(a[0], a[1]);
            case "outcome" -> x.outcome(a[0], a[1]);
            case "counted" -> x.counted(a[0], a[1]);
            case "closure" -> x.closure(a[0], a[1]);
            case "cases" -> x.cases(a[0]);
            default -> throw new IllegalStateException("no such method in the face: " + method);
        };
    }
}
