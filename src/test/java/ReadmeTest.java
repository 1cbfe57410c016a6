import java.io.IOException;
import java.nio.file.Files;
import java.nio.file.Path;
import java.util.regex.Matcher;
import java.util.regex.Pattern;

/** The rows of README.md that show a call and what it answers. */
public final class ReadmeTest {
    private static final Pattern ROW = Pattern.compile("x\\.(\\w+)\\((.*?)\\);\\s+// (-?\\d+):.*");
    private static final int LEAST_ROWS = 20;

    private ReadmeTest() {
    }

    public static void main(String[] args) throws IOException {
        Both shown = new Both(false);
        int rows = 0;
        for (String line : Files.readAllLines(Path.of("README.md"))) {
            Matcher row = ROW.matcher(line);
            if (row.matches()) {
                rows++;
                Due.due(line, shown.ask(row.group(1), numbers(row.group(2))), Integer.parseInt(row.group(3)));
            } else {
                Due.due("a row without an answer: " + line, line.startsWith("x.") ? 1 : 0, 0);
            }
        }
        Due.due("README.md has rows enough", rows >= LEAST_ROWS ? 1 : 0, 1);
        Due.end();
    }

    private static long[] numbers(String list) {
        if (list.isEmpty()) {
            return new long[0];
        }
        String[] parts = list.split(", ");
        long[] numbers = new long[parts.length];
        for (int i = 0; i < parts.length; i++) {
            numbers[i] = number(parts[i]);
        }
        return numbers;
    }

    private static long number(String part) {
        switch (part) {
            case "true": return 1;
            case "false": return 0;
            default: return Long.decode(part.endsWith("L") ? part.substring(0, part.length() - 1) : part);
        }
    }
}
