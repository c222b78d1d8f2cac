import java.io.IOException;
import java.lang.reflect.Method;
import java.lang.reflect.Modifier;
import java.nio.charset.StandardCharsets;
import java.nio.file.DirectoryStream;
import java.nio.file.Files;
import java.nio.file.Path;
import java.util.HashMap;
import java.util.Map;
import java.util.regex.Matcher;
import java.util.regex.Pattern;

/** README.md: its example answers what stands behind each line, and it names every call and every test. */
public final class ReadmeTest {
    private static final Check CHECK = new Check("readme");
    private static final String FIRST_LINE = "Spliceroom room = new Spliceroom();";
    private static final Pattern LINE = Pattern.compile("(?:int (\\w+) = )?room\\.(\\w+)\\((.*)\\); *// (\\w+).*");

    public static void main(String[] args) throws IOException {
        String readme = Files.readString(Path.of("README.md"), StandardCharsets.UTF_8);
        example(readme);
        calls(readme);
        tests(readme);
        CHECK.end();
    }

    private static void example(String readme) {
        int start = readme.indexOf(FIRST_LINE);
        int end = readme.indexOf("```", start);
        CHECK.same("the example", start >= 0 && end > start ? "found" : "not found", "found");
        Run run = CHECK.run();
        Map<String, String> numbers = new HashMap<>();
        for (String line : readme.substring(start + FIRST_LINE.length(), end).strip().split("\n")) {
            Matcher parts = LINE.matcher(line);
            CHECK.same(line, parts.matches() ? "read" : "not read", "read");
            StringBuilder call = new StringBuilder(parts.group(2));
            for (String arg : parts.group(3).isEmpty() ? new String[0] : parts.group(3).split(", ")) {
                call.append(' ').append(numbers.getOrDefault(arg, arg));
            }
            String due = parts.group(4);
            run.due(call.toString(), Character.isDigit(due.charAt(0)) ? due : "throws." + due);
            if (parts.group(1) != null) {
                numbers.put(parts.group(1), due);
            }
        }
    }

    private static void calls(String readme) {
        for (Method method : Spliceroom.class.getDeclaredMethods()) {
            if (Modifier.isPublic(method.getModifiers())) {
                named(readme, method.getName());
            }
        }
    }

    private static void tests(String readme) throws IOException {
        try (DirectoryStream<Path> tests = Files.newDirectoryStream(Path.of("src", "test", "java"), "*Test.java")) {
            for (Path test : tests) {
                named(readme, test.getFileName().toString().replace(".java", ""));
            }
        }
    }

    private static void named(String readme, String name) {
        CHECK.same(name, readme.contains("`" + name + "`") ? "named" : "not named", "named");
    }
}
