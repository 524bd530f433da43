import java.io.IOException;
import java.lang.reflect.Field;
import java.lang.reflect.Method;
import java.lang.reflect.Modifier;
import java.nio.file.Files;
import java.nio.file.Path;
import java.util.HashSet;
import java.util.List;
import java.util.Set;
import java.util.regex.Matcher;
import java.util.regex.Pattern;
import java.util.stream.Collectors;
import java.util.stream.Stream;

/** The rules of LANGUAGE.md that can be looked up in the source and in the classes; it runs in the project's directory. */
public final class SourceTest {
    private static final Path SOURCE = Path.of("src/main/java/MeterBus.java");
    private static final String[] NOT_THERE = {"package", "import", "try", "catch", "finally", "synchronized", "assert",
        "native", "volatile", "transient", "protected", "double", "float", "Object", "Thread", "instanceof", "->", "::", "@"};

    public static void main(String[] args) throws IOException {
        oneFile();
        String code = withoutComments(Files.readString(SOURCE));
        words(code);
        thrown(code);
        library(code);
        lengthsOfMethods(Files.readAllLines(SOURCE));
        classes();
        Check.end();
    }

    /** "The program is one file". */
    private static void oneFile() throws IOException {
        try (Stream<Path> all = Files.walk(Path.of("src/main"))) {
            String files = all.filter(Files::isRegularFile).map(Path::toString).collect(Collectors.joining(" "));
            Check.due("the files under src/main", files, SOURCE.toString());
        }
    }

    private static String withoutComments(String source) {
        return source.replaceAll("(?s)/\\*.*?\\*/", "").replaceAll("//.*", "");
    }

    private static void words(String code) {
        String bare = code.replaceAll("\"[^\"]*\"", "\"\"");
        for (String word : NOT_THERE) {
            String pattern = Character.isLetter(word.charAt(0)) ? "\\b" + word + "\\b" : Pattern.quote(word);
            Check.due("the code has " + word, Check.bit(Pattern.compile(pattern).matcher(bare).find()), 0);
        }
    }

    /** Rule 6: "throw new E() or throw new E("a written text")"; of these the document names three. */
    private static void thrown(String code) {
        String written = "throw new (IndexOutOfBounds|IllegalArgument|UnsupportedOperation)Exception\\(\"[^\"]*\"\\);";
        Check.due("throws", code.split("\\bthrow\\b").length, code.split(written, -1).length);
    }

    /** Rule 4: of the library it uses Math.min alone. */
    private static void library(String code) {
        Matcher uses = Pattern.compile("\\b(System|Math|Integer|Long|Arrays|List|ArrayList|String|StringBuilder)\\b[.\\w]*").matcher(code);
        while (uses.find()) {
            Check.due("of the library", uses.group(), "Math.min");
        }
    }

    /** Rule 11: "Methods stay short (some sixty lines)"; a method ends where its first line stood. */
    private static void lengthsOfMethods(List<String> lines) {
        int methods = 0;
        for (int i = 0; i < lines.size(); i++) {
            Matcher head = Pattern.compile("( {4}| {8})[a-z][^=]*\\(.*").matcher(lines.get(i));
            if (head.matches() && !lines.get(i).endsWith(";")) {
                int end = i + 1 + lines.subList(i + 1, lines.size()).indexOf(head.group(1) + "}");
                if (end > i) {
                    methods++;
                    Check.due(lines.get(i) + " is short", Check.bit(end - i < 60), 1);
                }
            }
        }
        Check.due("methods were looked at", Check.bit(methods > 60), 1);
    }

    /** Rules 1, 2, 5 and 11: classes, their fields and the parameters of their methods. */
    private static void classes() {
        Set<String> face = new HashSet<>();
        for (Method m : MeterBus.class.getMethods()) {
            face.add(m.getName());
        }
        Class<?>[] inside = MeterBus.class.getDeclaredClasses();
        Check.due("at most some twelve classes", Check.bit(inside.length < 12), 1);
        oneClass(MeterBus.class, face);
        for (Class<?> one : inside) {
            int modifiers = one.getModifiers();
            Check.due(one + " is private and static", Check.bit(Modifier.isPrivate(modifiers) && Modifier.isStatic(modifiers)), 1);
            Check.due(one + " has none inside", one.getDeclaredClasses().length, 0);
            oneClass(one, face);
        }
    }

    private static void oneClass(Class<?> one, Set<String> face) {
        int fields = 0;
        for (Field f : one.getDeclaredFields()) {
            boolean constant = Modifier.isStatic(f.getModifiers());
            fields += constant ? 0 : 1;
            Check.due(f + ": static fields are final numbers", Check.bit(!constant
                    || Modifier.isFinal(f.getModifiers()) && (f.getType() == int.class || f.getType() == long.class)), 1);
        }
        Check.due(one + ": at most some twenty fields", Check.bit(fields <= 20), 1);
        for (Method m : one.getDeclaredMethods()) {
            Check.due(m + ": at most seven parameters", Check.bit(m.getParameterCount() <= 7), 1);
            boolean publicOne = Modifier.isPublic(m.getModifiers());
            Check.due(m + ": no other bears a public name", Check.bit(!publicOne && face.contains(m.getName())), 0);
        }
    }
}
