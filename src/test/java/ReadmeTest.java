import java.io.IOException;
import java.lang.reflect.Method;
import java.lang.reflect.Modifier;
import java.nio.file.DirectoryStream;
import java.nio.file.Files;
import java.nio.file.Path;
import java.util.regex.Matcher;
import java.util.regex.Pattern;

/** README.md says what is so: its examples are run, and it names each call, finding and test. */
public final class ReadmeTest {
    private static final Pattern EXAMPLE = Pattern.compile("(?s)```java\n(.*?)```");
    private static final Pattern MADE = Pattern.compile("InsideOut x = new InsideOut\\(\\);");
    private static final Pattern CALL = Pattern.compile("(?:int u = )?x\\.(\\w+)\\(([^)]*)\\); +// (-?\\d+)(?:: .*)?");
    /** The examples call their first umbrella u. */
    private static final int U = 0;

    public static void main(String[] args) throws IOException {
        String page = Files.readString(Path.of("README.md"));
        examples(page);
        namesEachCall(page);
        namesEachFinding(page);
        namesEachTest(page);
        Due.end();
    }

    private static void examples(String page) {
        int found = 0;
        Matcher example = EXAMPLE.matcher(page);
        while (example.find()) {
            found++;
            runExample(example.group(1));
        }
        Due.due("there are examples", found > 0 ? 1 : 0, 1);
    }

    private static void runExample(String lines) {
        InsideOut x = null;
        for (String line : lines.split("\n")) {
            if (MADE.matcher(line).matches()) {
                x = new InsideOut();
                continue;
            }
            Matcher call = CALL.matcher(line);
            boolean isCall = x != null && call.matches();
            Due.due("a call on an object, with its answer: " + line, isCall ? 1 : 0, 1);
            if (isCall) {
                long got = Calls.call(x, call.group(1), numbers(call.group(2)));
                Due.due(line, got, Long.parseLong(call.group(3)));
            }
        }
    }

    private static int[] numbers(String told) {
        if (told.isBlank()) {
            return new int[0];
        }
        String[] parts = told.split(", ");
        int[] numbers = new int[parts.length];
        for (int i = 0; i < parts.length; i++) {
            numbers[i] = parts[i].equals("u") ? U : Integer.decode(parts[i]);
        }
        return numbers;
    }

    private static void namesEachCall(String page) {
        String table = page.substring(page.indexOf("### Calls"), page.indexOf("## Tests"));
        for (Method m : InsideOut.class.getDeclaredMethods()) {
            if (Modifier.isPublic(m.getModifiers())) {
                Due.due("README names " + m.getName(), table.contains("`" + m.getName() + "`") ? 1 : 0, 1);
            }
        }
    }

    private static void namesEachFinding(String page) {
        String[] names = {"BEYOND", "FULL", "KIND", "NONE", "STATE", "MISSING", "SIZE"};
        for (int i = 0; i < names.length; i++) {
            String row = "| " + (Due.BEYOND - i) + " | " + names[i] + " |";
            Due.due("README has " + row, page.contains(row) ? 1 : 0, 1);
        }
    }

    private static void namesEachTest(String page) throws IOException {
        int found = 0;
        try (DirectoryStream<Path> tests = Files.newDirectoryStream(Path.of("src/test/java"), "*Test.java")) {
            for (Path test : tests) {
                found++;
                String name = test.getFileName().toString().replace(".java", "");
                Due.due("README names " + name, page.contains("| `" + name + "` |") ? 1 : 0, 1);
            }
        }
        Due.due("tests are found", found > 0 ? 1 : 0, 1);
    }
}
