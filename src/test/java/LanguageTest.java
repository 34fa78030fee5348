import java.nio.charset.StandardCharsets;
import java.nio.file.Files;
import java.nio.file.Path;
import java.util.ArrayDeque;
import java.util.TreeSet;
import java.util.regex.Matcher;
import java.util.regex.Pattern;

/** What can be seen of LANGUAGE.md's rules in the source's text; its path is the argument. */
public final class LanguageTest {
    private static final String[] FACE = {
        "load", "set", "key", "run", "reg", "csr", "word", "count", "out", "leads", "reset", "feed", "end", "assemble",
        "place", "label", "tell", "told", "disk", "write", "check",
    };

    public static void main(String[] args) throws Exception {
        String path = args.length > 0 ? args[0] : "src/main/java/TranslatingHost.java";
        String source = bare(Files.readString(Path.of(path), StandardCharsets.UTF_8));
        words(source);
        library(source);
        statics(source);
        copies(source);
        methods(source);
        Due.done();
    }

    /** Without comments, and with empty texts and plain characters. */
    private static String bare(String source) {
        String s = source.replaceAll("\"(\\\\.|[^\"\\\\])*\"", "\"\"").replaceAll("'(\\\\.|[^'\\\\])'", "' '");
        s = s.replaceAll("(?s)/\\*.*?\\*/", " ");
        return s.replaceAll("//[^\n]*", " ");
    }

    private static int times(String source, String pattern) {
        Matcher m = Pattern.compile(pattern).matcher(source);
        int n = 0;
        while (m.find()) {
            n++;
        }
        return n;
    }

    private static void words(String source) {
        String[] never = {
            "throw", "throws", "try", "catch", "finally", "synchronized", "assert", "volatile", "transient", "native",
            "protected", "package", "yield", "var", "Object", "Thread", "Exception", "hashCode", "toString", "getClass",
        };
        for (String word : never) {
            Due.is("the word " + word, times(source, "\\b" + word + "\\b"), 0);
        }
        Due.is("lambdas and arrows", times(source, "->"), 0);
        Due.is("method references", times(source, "::"), 0);
        Due.is("texts joined by +", times(source, "\"\"\\s*\\+|\\+\\s*\"\""), 0);
        Due.is("annotations", times(source, "@"), 0);
        Due.is("classes", times(source, "\\b(class|enum|interface|record)\\s+\\w+") <= 12 ? 1 : 0, 1);
        Due.is("public members", times(source, "\\bpublic\\b"), FACE.length + 3);
    }

    private static void library(String source) {
        TreeSet<String> used = new TreeSet<>();
        Matcher m = Pattern.compile("\\b(import [\\w.]+|(?:Arrays|System|Math|Integer|Long|String|StringBuilder)\\.\\w+)").matcher(source);
        while (m.find()) {
            used.add(m.group(1));
        }
        Due.is("the library", used.toString(), "[Arrays.fill, Math.max, Math.min, System.arraycopy,"
            + " import java.util.Arrays]");
    }

    private static void statics(String source) {
        int fields = times(source, "\\bstatic\\s+(final\\s+)?[\\w\\[\\]]+\\s+\\w+\\s*[=;]");
        int constants = times(source, "\\bprivate static final (int|long|boolean|char|String|int\\[\\]) \\w+ =");
        Due.is("static fields but NONE are private constants", constants, fields - 1);
        Due.is("static blocks", times(source, "\\bstatic\\s*\\{"), 0);
    }

    /** An enum's values() is a copy each time. */
    private static void copies(String source) {
        Due.is("copies of Op's constants", times(source, "\\bOp\\.values\\(\\)"), 1);
        Due.is("copies of Part's constants", times(source, "\\bPart\\.values\\(\\)"), 1);
        Due.is("copies of an enum's constants", times(source, "\\bvalues\\(\\)"), 2);
    }

    private static void methods(String source) {
        TreeSet<String> face = new TreeSet<>(java.util.List.of(FACE));
        Pattern head = Pattern.compile("^( +)(public |private |static |final )*[\\w\\[\\]]+ (\\w+)\\(([^)]*)\\) \\{$");
        ArrayDeque<String> lines = new ArrayDeque<>(java.util.List.of(source.split("\n")));
        int depth = 0;
        int length = 0;
        String name = "";
        while (!lines.isEmpty()) {
            String line = lines.remove().stripTrailing();
            Matcher m = head.matcher(line);
            if (m.matches() && !line.contains(" new ") && m.group(1).length() <= 8) {
                name = m.group(3);
                depth = m.group(1).length();
                length = 0;
                int parameters = m.group(4).isEmpty() ? 0 : m.group(4).split(",").length;
                Due.is(name + " has at most seven parameters", parameters <= 7 ? 1 : 0, 1);
                Due.is(name + " alone bears its name", face.contains(name) && depth > 4 ? 1 : 0, 0);
            }
            length++;
            if (line.equals(" ".repeat(depth) + "}") && !name.isEmpty()) {
                Due.is(name + " is short", length <= 60 ? 1 : 0, 1);
                name = "";
            }
        }
    }
}
