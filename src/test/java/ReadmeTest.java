import java.io.IOException;
import java.lang.reflect.Method;
import java.lang.reflect.Modifier;
import java.nio.file.Files;
import java.nio.file.Path;
import java.util.List;
import java.util.TreeSet;
import java.util.regex.Matcher;
import java.util.regex.Pattern;
import java.util.stream.Stream;

/** What README.md says is so: the answers in its examples, the calls that it names, and its list of tests. */
public final class ReadmeTest {
    private static final Pattern EXAMPLE = Pattern.compile("(?s)```java\n(.*?)```");
    private static final Pattern LINE = Pattern.compile("x\\.(\\w+)\\(([-\\d, ]*)\\); +// (-?\\d+|true|false)\\b.*");
    private static final Pattern NAME = Pattern.compile("`(\\w+)`");

    public static void main(String[] args) throws IOException {
        String text = Files.readString(Path.of("README.md"));
        examples(text);
        calls(text);
        tests(text);
        Script.finish();
    }

    private static void examples(String text) {
        Matcher block = EXAMPLE.matcher(text);
        int lines = 0;
        while (block.find()) {
            Real subject = null;
            for (String line : block.group(1).split("\n")) {
                lines++;
                if (line.equals("LeasedReferences x = new LeasedReferences();")) {
                    subject = new Real();
                } else {
                    example(subject, line);
                }
            }
        }
        System.out.println(lines + " lines of examples");
        if (lines == 0) {
            Script.fault("README.md has no example");
        }
    }

    private static void example(Real subject, String line) {
        Matcher m = LINE.matcher(line);
        if (subject == null || !m.matches()) {
            Script.fault("no call with its answer: " + line);
            return;
        }
        Call call = Call.parse(m.group(1) + " " + m.group(2).replace(",", " "));
        boolean yesOrNo = Subject.YES_OR_NO.contains(call.name());
        int got = subject.answer(call);
        String told = yesOrNo ? String.valueOf(got == 1) : String.valueOf(got);
        if (!told.equals(m.group(3))) {
            Script.fault("README.md: " + call + " answered " + told + ", not " + m.group(3));
        }
    }

    private static void calls(String text) {
        TreeSet<String> named = names(text.lines().filter(line -> line.startsWith("| `")).toList());
        TreeSet<String> face = new TreeSet<>();
        for (Method m : LeasedReferences.class.getDeclaredMethods()) {
            if (Modifier.isPublic(m.getModifiers())) {
                face.add(m.getName());
            }
        }
        same("the calls of the table", named, face);
    }

    private static void tests(String text) throws IOException {
        TreeSet<String> named = names(text.lines().filter(line -> line.startsWith("- `")).toList());
        named.removeIf(name -> !name.endsWith("Test"));
        TreeSet<String> there = new TreeSet<>();
        try (Stream<Path> files = Files.list(Path.of("src/test/java"))) {
            files.map(file -> file.getFileName().toString().replace(".java", ""))
                .filter(name -> name.endsWith("Test"))
                .forEach(there::add);
        }
        same("the tests of the list", named, there);
    }

    private static TreeSet<String> names(List<String> lines) {
        TreeSet<String> found = new TreeSet<>();
        for (String line : lines) {
            Matcher m = NAME.matcher(line);
            while (m.find()) {
                found.add(m.group(1));
            }
        }
        return found;
    }

    private static void same(String what, TreeSet<String> named, TreeSet<String> there) {
        if (!named.equals(there)) {
            Script.fault(what + " in README.md are " + named + ", there are " + there);
        }
    }
}
