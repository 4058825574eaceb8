import java.nio.file.Files;
import java.nio.file.Path;
import java.util.regex.Matcher;
import java.util.regex.Pattern;

/** The run of calls that README.md shows is answered as it says there. */
final class ReadmeTest {
    private static final Pattern CALL = Pattern.compile("(\\w+)\\(([-0-9, ]*)\\) -> (true|false|-?[0-9]+)\\b.*");
    private final House h = new House();

    public static void main(String[] args) throws Exception {
        new ReadmeTest().run();
        House.finish();
    }

    private void run() throws Exception {
        SchemeHouse x = null;
        int calls = 0;
        for (String line : Files.readAllLines(Path.of("README.md"))) {
            if (line.equals("new SchemeHouse()")) x = new SchemeHouse();
            Matcher call = CALL.matcher(line);
            if (x == null || !call.matches()) continue;
            calls++;
            h.due(line, answer(x, call.group(1), numbers(call.group(2))), call.group(3));
        }
        h.due("calls in README.md", calls, 33);
    }

    private static int[] numbers(String told) {
        if (told.isEmpty()) return new int[0];
        String[] parts = told.split(", ");
        int[] numbers = new int[parts.length];
        for (int i = 0; i < parts.length; i++) numbers[i] = Integer.parseInt(parts[i]);
        return numbers;
    }

    private static String answer(SchemeHouse x, String name, int[] n) {
        switch (name) {
            case "feed": return Boolean.toString(x.feed(n[0], n[1], n[2], n[3], n[4]));
            case "end": return Boolean.toString(x.end(n[0]));
            case "input": return Integer.toString(x.input());
            case "evaluate": return Integer.toString(x.evaluate());
            case "told": return Integer.toString(x.told(n[0], n[1]));
            case "sum": return Integer.toString(x.sum(n[0]));
            case "count": return Integer.toString(x.count(n[0]));
            default: return "no such call";
        }
    }
}
