import java.io.IOException;
import java.nio.file.Files;
import java.nio.file.Path;
import java.util.List;
import java.util.regex.Matcher;
import java.util.regex.Pattern;

/** The example in README.md: each of its calls is answered as its comment says. */
public final class ExampleTest {
    private static final Due DUE = new Due();
    private static final Pattern LINE = Pattern.compile("x\\.(\\w+)\\(([^)]*)\\); +// (\\d+)\\b.*");

    public static void main(String[] args) throws IOException {
        List<String> lines = Files.readAllLines(Path.of("README.md"));
        TransportFour x = new TransportFour();
        int calls = 0;
        for (String line : lines) {
            Matcher found = LINE.matcher(line);
            if (found.matches()) {
                calls++;
                String call = found.group(1) + "(" + found.group(2) + ")";
                DUE.is(call, answer(x, found.group(1), found.group(2).split(", ")), Long.parseLong(found.group(3)));
            }
        }
        DUE.is("calls of the example", calls, lines.stream().filter(line -> line.startsWith("x.")).count());
        DUE.isTrue("the example is there", calls > 0);
        DUE.finish();
    }

    private static int answer(TransportFour x, String name, String[] texts) {
        int[] given = new int[texts.length];
        for (int i = 0; i < texts.length; i++) {
            given[i] = Integer.decode(texts[i]);
        }
        return switch (name) {
            case "call" -> x.call(given[0]);
            case "type" -> x.type(given[0], given[1]);
            case "send" -> x.send(given[0]);
            case "urge" -> x.urge(given[0], given[1]);
            case "end" -> x.end(given[0]);
            case "take" -> x.take(given[0]);
            case "read" -> x.read(given[0], given[1]);
            case "urgent" -> x.urgent(given[0]);
            case "fault" -> x.fault(given[0], given[1], given[2], given[3]);
            case "tick" -> x.tick(given[0]);
            case "told" -> x.told(given[0], given[1]);
            default -> Integer.MIN_VALUE;
        };
    }
}
