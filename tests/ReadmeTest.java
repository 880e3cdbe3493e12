import java.io.IOException;
import java.nio.file.Files;
import java.nio.file.Path;
import java.util.TreeMap;
import java.util.regex.Matcher;
import java.util.regex.Pattern;

/** The example of README.md answers what it tells behind its calls, and no test is left out there. */
public final class ReadmeTest {
    /** Such as: int name = house.call(values); // answer: words */
    private static final Pattern ROW =
            Pattern.compile("(?:int (\\w+) = )?house\\.(\\w+)\\((.*)\\); +// ([^:]+)(?:: .*)?");

    public static void main(String[] args) throws IOException {
        String text = Files.readString(Path.of("README.md"));
        int begin = text.indexOf("```java\n") + 8;
        example(text.substring(begin, text.indexOf("```", begin)));
        tellsAllTests(text);
        Due.end();
    }

    private static void example(String code) {
        Asked house = Asked.made();
        TreeMap<String, String> named = new TreeMap<>();
        String[] rows = code.split("\n");
        Due.is("the first row", rows[0], "Runpicture house = new Runpicture();");
        for (int n = 1; n < rows.length; n++) {
            Matcher row = ROW.matcher(rows[n]);
            Due.is("a call with its answer: " + rows[n], row.matches(), true);
            StringBuilder call = new StringBuilder(row.group(2));
            for (String value : row.group(3).split(", *")) {
                call.append(' ').append(named.getOrDefault(value, value));
            }
            String got = house.call(call.toString()).toString();
            Due.is(rows[n], got, row.group(4).replace("\"", ""));
            if (row.group(1) != null) {
                named.put(row.group(1), got);
            }
        }
    }

    private static void tellsAllTests(String text) throws IOException {
        try (var files = Files.list(Path.of("tests"))) {
            for (Path file : files.toList()) {
                String name = file.getFileName().toString().replace(".java", "");
                if (name.endsWith("Test")) {
                    Due.is("README tells of " + name, text.contains("`" + name + "`"), true);
                }
            }
        }
    }
}
