import java.lang.reflect.Method;
import java.nio.charset.StandardCharsets;
import java.nio.file.Files;
import java.nio.file.Path;
import java.util.regex.Matcher;
import java.util.regex.Pattern;

/** The examples of README.md: each call answers the number that stands behind it. To be run from the project's directory. */
public final class ReadmeTest {
    private static final Pattern BLOCK = Pattern.compile("(?s)```java\n(.*?)```");
    private static final Pattern FEED = Pattern.compile("feed\\(host, \"(.*)\"\\);");
    private static final Pattern CALL = Pattern.compile("host\\.(\\w+)\\((.*?)\\);\\s+// (-?\\d+)\\b.*");
    private static final String NEW = "TranslatingHost host = new TranslatingHost();";

    private static int calls = 0;

    public static void main(String[] args) throws Exception {
        String readme = Files.readString(Path.of("README.md"), StandardCharsets.UTF_8);
        Matcher block = BLOCK.matcher(readme);
        while (block.find()) {
            if (block.group(1).startsWith("static ")) {
                standsInDue(block.group(1));
            } else {
                answersAsTold(block.group(1));
            }
        }
        Due.yes("README has examples", calls > 0);
        everyCallIsNamed(readme);
        everyTestIsNamed(readme);
        Due.done();
    }

    /** The helper is what the tests themselves use. */
    private static void standsInDue(String helper) throws Exception {
        String due = Files.readString(Path.of("src/test/java/Due.java"), StandardCharsets.UTF_8);
        Due.yes("README's helper stands in Due", due.contains(helper.indent(4)));
    }

    private static void answersAsTold(String example) throws Exception {
        TranslatingHost host = new TranslatingHost();
        Due.yes("the example begins with a new object", example.startsWith(NEW));
        for (String line : example.substring(NEW.length()).strip().split("\n")) {
            Matcher feed = FEED.matcher(line);
            Matcher call = CALL.matcher(line);
            if (feed.matches()) {
                Due.feed(host, feed.group(1).translateEscapes());
            } else if (call.matches()) {
                calls++;
                Due.is("README: " + line, answer(host, call.group(1), call.group(2)), Long.parseLong(call.group(3)));
            } else {
                Due.is("README's line is a call with its answer", line, "");
            }
        }
    }

    private static long answer(TranslatingHost host, String name, String list) throws Exception {
        String[] texts = list.isEmpty() ? new String[0] : list.split(", ");
        Object[] values = new Object[texts.length];
        for (int i = 0; i < texts.length; i++) {
            values[i] = texts[i].startsWith("'") ? texts[i].charAt(1) : Long.decode(texts[i]).intValue();
        }
        for (Method m : TranslatingHost.class.getMethods()) {
            if (m.getName().equals(name) && m.getParameterCount() == values.length) {
                return ((Number) m.invoke(host, values)).longValue();
            }
        }
        Due.is("README calls " + name, 0, 1);
        return 0;
    }

    private static void everyCallIsNamed(String readme) {
        for (Method m : TranslatingHost.class.getDeclaredMethods()) {
            if (java.lang.reflect.Modifier.isPublic(m.getModifiers())) {
                Due.yes("README names " + m.getName(), readme.contains("`" + m.getName() + "`"));
            }
        }
    }

    private static void everyTestIsNamed(String readme) throws Exception {
        try (var files = Files.list(Path.of("src/test/java"))) {
            files.map(f -> f.getFileName().toString()).filter(f -> f.endsWith("Test.java")).forEach(f ->
                Due.yes("README names " + f, readme.contains("`" + f.replace(".java", "") + "`")));
        }
    }
}
