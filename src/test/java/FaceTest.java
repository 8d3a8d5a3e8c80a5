import java.lang.reflect.Constructor;
import java.lang.reflect.Field;
import java.lang.reflect.Member;
import java.lang.reflect.Method;
import java.lang.reflect.Modifier;
import java.nio.file.Files;
import java.nio.file.Path;
import java.util.ArrayList;
import java.util.Arrays;
import java.util.List;
import java.util.TreeSet;
import java.util.regex.Matcher;
import java.util.regex.Pattern;

/** The public face as the document has it, and those rules of LANGUAGE.md that can be seen from outside or by words. */
public final class FaceTest {
    private static final List<String> FACE = List.of(
        "int make(int, int)", "boolean link(int, int, int, int)", "boolean fetch(int, int, int, int)",
        "boolean drop(int, int)", "int pass(int, int, int, int)", "int call(int, int, int)", "int deliver(int)",
        "boolean lose(int)", "boolean copy(int)", "boolean tick(int)", "int collect(int)", "boolean crash(int)",
        "int flight()", "int message(int, int)", "int root(int, int)", "int slot(int, int, int)",
        "int listing(int, int, int)", "int pins(int)", "int outcome(int, int)");
    private static final Pattern RULED_OUT = Pattern.compile(
        "\\b(import|package|throw|throws|try|catch|finally|synchronized|assert|volatile|transient|native)\\b|->|::");

    /** What the program takes from the library, beside its own classes. */
    private static final List<String> NAMES = List.of(
        "LeasedReferences", "Message", "Network", "Slot", "Pin", "Request", "Node", "Math");
    private static final Path PROGRAM = Path.of("src/main/java/LeasedReferences.java");
    private static final Path DOCUMENT = Path.of("..", "shared", "DOC.md");
    private static final int MOST_LINES = 60;

    private static int wrong = 0;

    public static void main(String[] args) throws Exception {
        publicFace();
        faceOfTheDocument();
        nothingElseIsVisible();
        classesInside();
        ruledOutWords();
        namesFromElsewhere();
        shortMethods();
        System.out.println("the face: " + wrong + " faults");
        if (wrong != 0) {
            System.exit(1);
        }
    }

    private static void expect(boolean holds, String what) {
        if (!holds) {
            wrong++;
            System.out.println("not so: " + what);
        }
    }

    private static void publicFace() throws Exception {
        TreeSet<String> found = new TreeSet<>();
        for (Method m : LeasedReferences.class.getDeclaredMethods()) {
            if (Modifier.isPublic(m.getModifiers())) {
                expect(!Modifier.isStatic(m.getModifiers()), m.getName() + " is not static");
                List<String> types = Arrays.stream(m.getParameterTypes()).map(Class::getName).toList();
                found.add(m.getReturnType().getName() + " " + m.getName() + "(" + String.join(", ", types) + ")");
            }
        }
        expect(found.equals(new TreeSet<>(FACE)), "the public methods are the document's: " + found);
        expect(Modifier.isFinal(LeasedReferences.class.getModifiers()), "the class is final");
        expect(LeasedReferences.class.getConstructors().length == 1, "there is one public constructor");
        expect(LeasedReferences.class.getConstructor() != null, "it takes nothing");
        expect(LeasedReferences.NONE == -1 && LeasedReferences.STALE == -2, "NONE is -1 and STALE is -2");
    }

    private static void nothingElseIsVisible() {
        List<Member> members = new ArrayList<>();
        members.addAll(List.of(LeasedReferences.class.getDeclaredMethods()));
        members.addAll(List.of(LeasedReferences.class.getDeclaredFields()));
        members.addAll(List.of(LeasedReferences.class.getDeclaredConstructors()));
        TreeSet<String> publicNames = new TreeSet<>();
        TreeSet<String> privateMethods = new TreeSet<>();
        for (Member m : members) {
            int how = m.getModifiers();
            expect(Modifier.isPublic(how) || Modifier.isPrivate(how), m.getName() + " is public or private");
            if (m instanceof Field && Modifier.isPublic(how)) {
                expect(List.of("NONE", "STALE").contains(m.getName()), m.getName() + " is a constant of the document");
            }
            if (m instanceof Method) {
                (Modifier.isPublic(how) ? publicNames : privateMethods).add(m.getName());
            }
            if (m instanceof Constructor) {
                expect(Modifier.isPublic(how), "the constructor is public");
            }
        }
        privateMethods.retainAll(publicNames);
        expect(privateMethods.isEmpty(), "no private method is named as a public one: " + privateMethods);
    }

    private static void classesInside() {
        Class<?>[] inside = LeasedReferences.class.getDeclaredClasses();
        expect(inside.length <= 11, "there are at most some twelve classes");
        for (Class<?> c : inside) {
            expect(Modifier.isStatic(c.getModifiers()), c.getName() + " is static");
            expect(!Modifier.isPublic(c.getModifiers()), c.getName() + " is not public");
        }
        List<Class<?>> all = new ArrayList<>(List.of(inside));
        all.add(LeasedReferences.class);
        for (Class<?> c : all) {
            int own = 0;
            for (Field f : c.getDeclaredFields()) {
                boolean isStatic = Modifier.isStatic(f.getModifiers());
                expect(!isStatic || Modifier.isFinal(f.getModifiers()), f.getName() + " is final, since it is static");
                own += isStatic ? 0 : 1;
            }
            expect(own <= 20, c.getName() + " has at most some twenty fields");
            for (Method m : c.getDeclaredMethods()) {
                expect(m.getParameterCount() <= 7, m.getName() + " takes at most seven parameters");
            }
        }
    }

    /** Every line of the face stands in the program as the document has it, and no other line is public. */
    private static void faceOfTheDocument() throws Exception {
        Matcher block = Pattern.compile("(?s)```java\n(.*?)```").matcher(Files.readString(DOCUMENT));
        expect(block.find(), "the document has a face");
        TreeSet<String> due = publicLines(block.group(1));
        TreeSet<String> found = publicLines(Files.readString(PROGRAM));
        expect(due.size() == FACE.size() + 4, "the face has the class, two constants, the constructor and the methods");
        expect(found.equals(due), "the public lines are the document's: " + found);
    }

    private static TreeSet<String> publicLines(String text) {
        TreeSet<String> lines = new TreeSet<>();
        for (String line : text.split("\n")) {
            if (line.strip().startsWith("public ")) {
                lines.add(line.strip().replaceAll("( \\{|;)$", ""));
            }
        }
        return lines;
    }

    private static String code() throws Exception {
        return Files.readString(PROGRAM).replaceAll("(?s)/\\*.*?\\*/", "").replaceAll("//[^\n]*", "");
    }

    private static void ruledOutWords() throws Exception {
        Matcher m = RULED_OUT.matcher(code());
        while (m.find()) {
            expect(false, "the program keeps out " + m.group());
        }
        expect(Files.readString(PROGRAM).chars().allMatch(c -> c == '\n' || c >= ' ' && c < 127),
            "the program is written in plain signs");
    }

    private static void namesFromElsewhere() throws Exception {
        Matcher m = Pattern.compile("\\b[A-Z]\\w*[a-z]\\w*\\b").matcher(code());
        while (m.find()) {
            expect(NAMES.contains(m.group()), m.group() + " is a name of the program or of its library");
        }
        Matcher math = Pattern.compile("\\bMath\\.(\\w+)").matcher(code());
        while (math.find()) {
            expect(List.of("max", "min").contains(math.group(1)), "Math." + math.group(1) + " is one that is let in");
        }
    }

    /** A method starts in a line that ends with ") {" and ends where a brace stands as far in as its first word. */
    private static void shortMethods() throws Exception {
        String[] lines = code().split("\n");
        Pattern start = Pattern.compile("( {4}| {8})[a-zA-Z].*\\) \\{");
        int methods = 0;
        for (int i = 0; i < lines.length; i++) {
            Matcher m = start.matcher(lines[i]);
            boolean isStatement = lines[i].strip().matches("(if|for|while|switch|do)\\b.*");
            if (m.matches() && !isStatement) {
                int end = i;
                while (end < lines.length && !lines[end].equals(m.group(1) + "}")) {
                    end++;
                }
                methods++;
                expect(end - i < MOST_LINES, "short is the method of the line " + lines[i].strip());
            }
        }
        expect(methods > FACE.size(), "methods are found in the program");
    }
}
