import java.lang.reflect.Method;
import java.lang.reflect.Modifier;
import java.nio.file.Files;
import java.nio.file.Path;
import java.util.Arrays;
import java.util.List;
import java.util.Set;
import java.util.TreeSet;
import java.util.regex.Matcher;
import java.util.regex.Pattern;
import java.util.stream.Collectors;
import javax.tools.ToolProvider;

/** What README.md shows: its calls are made in its order, on one object, and answer what it says. */
final class ReadmeTest {
    private static final Pattern BLOCK = Pattern.compile("(?s)```java\n(.*?)```");
    private static final Pattern CALL = Pattern.compile("x\\.(\\w+)\\(([^)]*)\\);\\s*// (-?\\d+|[A-Z]+)(:.*)?");
    private static final Pattern TEXT = Pattern.compile("(?:String text =|\\+) \"([^\"]*)\";?\\s*//.*");
    private static final String MADE = "RightTerms x = new RightTerms();";
    private static final String FED = "for (int i = 0; i < text.length(); i++) x.feed(text.charAt(i));";

    private static final Due due = new Due("README.md");
    private static final Set<String> shown = new TreeSet<>();
    private static final StringBuilder text = new StringBuilder();
    private static Subject x = null;

    public static void main(String[] args) throws Exception {
        String readme = Files.readString(Path.of("README.md"));
        String code = BLOCK.matcher(readme).results().map(block -> block.group(1)).collect(Collectors.joining());
        for (String line : code.split("\n")) {
            due.sentence(line.strip());
            follow(line.strip());
        }
        due.sentence("README.md says how to use the class");
        due.same("what is shown", shown.toString(), face().toString());
        due.same("what javac says of it", javacOn(code), 0);
        due.sentence("and how to run its tests");
        due.same("a line with the one command", readme.contains("\n    .ci/run\n") ? 1 : 0, 1);
        due.same("the command can be run", Files.isExecutable(Path.of(".ci/run")) ? 1 : 0, 1);
        due.finish();
    }

    private static void follow(String line) throws Exception {
        Matcher call = CALL.matcher(line);
        Matcher part = TEXT.matcher(line);
        if (line.equals(MADE)) {
            x = new Subject();
        } else if (part.matches()) {
            text.append(part.group(1));
        } else if (line.equals(FED)) {
            x.feed(text.toString());
        } else if (call.matches()) {
            shown.add(call.group(1));
            due.is(x, answer(call.group(3)), call.group(1), numbers(call.group(2)));
        } else {
            due.same("a line that this test can follow", 0, 1);
        }
    }

    private static int answer(String said) throws Exception {
        List<String> names = List.of("NONE", "BAD", "STATE", "FULL");
        return names.contains(said) ? RightTerms.class.getField(said).getInt(null) : Integer.parseInt(said);
    }

    private static int[] numbers(String list) {
        return Arrays.stream(list.split(",")).map(String::strip).filter(s -> !s.isEmpty())
                .mapToInt(s -> s.startsWith("'") ? s.charAt(1) : Integer.parseInt(s)).toArray();
    }

    private static int javacOn(String code) throws Exception {
        Path dir = Files.createTempDirectory("readme");
        Path file = dir.resolve("Readme.java");
        Files.writeString(file, "final class Readme {\n void use() {\n" + code + "}\n}\n");
        int said = ToolProvider.getSystemJavaCompiler().run(null, null, null, "-cp", System.getProperty("java.class.path"),
                "-proc:none", "-d", dir.toString(), file.toString());
        for (Path made : List.of(file, dir.resolve("Readme.class"), dir)) {
            Files.deleteIfExists(made);
        }
        return said;
    }

    private static Set<String> face() {
        Set<String> names = new TreeSet<>();
        for (Method m : RightTerms.class.getDeclaredMethods()) {
            if (Modifier.isPublic(m.getModifiers())) {
                names.add(m.getName());
            }
        }
        return names;
    }

    private ReadmeTest() {
    }
}
