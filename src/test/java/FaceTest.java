import java.lang.reflect.Constructor;
import java.lang.reflect.Field;
import java.lang.reflect.Member;
import java.lang.reflect.Method;
import java.lang.reflect.Modifier;
import java.nio.file.Files;
import java.nio.file.Path;
import java.util.ArrayList;
import java.util.Arrays;
import java.util.List;
import java.util.TreeSet;
import java.util.regex.Matcher;
import java.util.regex.Pattern;

/** The public face, and those rules of LANGUAGE.md that a look at the class and its text can hold. */
final class FaceTest {
    private static final String[] FACE = {
        "feed 1", "rights 0", "fault 0", "undo 0", "enact 4", "repeal 1", "alter 4", "die 3", "change 3", "act 3",
        "author 2", "work 2", "as 2", "inForce 2", "term 4", "free 3", "isProtected 3", "span 4", "everywhere 2",
        "next 3", "longer 3", "image 1", "restore 1", "count 1"};
    private static final String[] FORBIDDEN = {
        "throw", "throws", "try", "catch", "synchronized", "assert", "import", "package", "->", "::", "Exact",
        "System.currentTimeMillis", "System.nanoTime", "Random", "Thread", "native", "volatile", "transient"};
    private static int wrong = 0;

    public static void main(String[] args) throws Exception {
        theFace();
        theConstants();
        insideClasses();
        theText();
        shortMethods();
        System.out.println(wrong == 0 ? "the face is as told" : wrong + " things are not as told");
        if (wrong != 0) {
            System.exit(1);
        }
    }

    private static void tell(boolean right, String what) {
        if (!right) {
            wrong++;
            System.out.println(what);
        }
    }

    private static void theFace() {
        tell(Modifier.isPublic(RightTerms.class.getModifiers()), "the class is not public");
        tell(Modifier.isFinal(RightTerms.class.getModifiers()), "the class is not final");
        TreeSet<String> found = new TreeSet<>();
        for (Method m : RightTerms.class.getDeclaredMethods()) {
            if (Modifier.isPrivate(m.getModifiers())) {
                continue;
            }
            found.add(m.getName() + " " + m.getParameterCount());
            boolean ints = m.getReturnType() == int.class;
            for (Class<?> type : m.getParameterTypes()) {
                ints &= type == int.class;
            }
            tell(ints && Modifier.isPublic(m.getModifiers()) && !Modifier.isStatic(m.getModifiers()), "not as told: " + m);
        }
        tell(found.equals(new TreeSet<>(Arrays.asList(FACE))), "the methods are " + found);
        Constructor<?>[] made = RightTerms.class.getDeclaredConstructors();
        tell(made.length == 1 && made[0].getParameterCount() == 0 && Modifier.isPublic(made[0].getModifiers()),
                "the constructors are " + Arrays.toString(made));
    }

    private static void theConstants() throws Exception {
        List<String> open = new ArrayList<>();
        for (Field f : RightTerms.class.getDeclaredFields()) {
            if (!Modifier.isPrivate(f.getModifiers())) {
                open.add(f.getName() + "=" + f.get(null));
            }
            tell(!Modifier.isStatic(f.getModifiers()) || Modifier.isFinal(f.getModifiers()), "static, not final: " + f);
        }
        tell(open.equals(List.of("NONE=-1000000", "BAD=-1000001", "STATE=-1000002", "FULL=-1000003")),
                "the constants are " + open);
    }

    private static void insideClasses() {
        Class<?>[] inside = RightTerms.class.getDeclaredClasses();
        tell(inside.length <= 11, "too many classes");
        for (Class<?> c : inside) {
            tell(Modifier.isStatic(c.getModifiers()) && !Modifier.isPublic(c.getModifiers())
                    && !Modifier.isProtected(c.getModifiers()), "not static, or open: " + c);
            fieldsOf(c);
            noNameOfTheFace(c.getDeclaredMethods());
        }
        fieldsOf(RightTerms.class);
        noNameOfTheFace(Arrays.stream(RightTerms.class.getDeclaredMethods())
                .filter(m -> Modifier.isPrivate(m.getModifiers())).toArray(Member[]::new));
    }

    private static void fieldsOf(Class<?> c) {
        long own = Arrays.stream(c.getDeclaredFields()).filter(f -> !Modifier.isStatic(f.getModifiers())).count();
        tell(own <= 20, c + " has " + own + " fields");
        for (Method m : c.getDeclaredMethods()) {
            tell(m.getParameterCount() <= 7, "more than seven parameters: " + m);
        }
    }

    private static void noNameOfTheFace(Member[] methods) {
        for (Member m : methods) {
            for (String face : FACE) {
                tell(!face.startsWith(m.getName() + " "), "bears a name of the face: " + m);
            }
        }
    }

    private static void theText() throws Exception {
        String text = Files.readString(Path.of("src/main/java/RightTerms.java"));
        tell(text.chars().allMatch(c -> c < 127), "a sign beyond 126");
        String code = text.replaceAll("(?s)/\\*.*?\\*/", "").replaceAll("//[^\n]*", "");
        for (String word : FORBIDDEN) {
            String edge = Character.isLetter(word.charAt(0)) ? "\\b" : "";
            Matcher m = Pattern.compile(edge + Pattern.quote(word) + edge).matcher(code);
            tell(!m.find(), "forbidden: " + word);
        }
        Matcher library = Pattern.compile("\\b(System|Math|Integer|Long|Arrays|String|StringBuilder|List|ArrayList)\\b\\.?(\\w*)")
                .matcher(code);
        while (library.find()) {
            tell(List.of("System.arraycopy", "Math.max", "Math.min").contains(library.group()),
                    "not used so far: " + library.group());
        }
    }

    private static void shortMethods() throws Exception {
        List<String> lines = Files.readAllLines(Path.of("src/main/java/RightTerms.java"));
        int methods = 0;
        for (int i = 0; i < lines.size(); i++) {
            Matcher head = Pattern.compile("( {4}| {8})(?! )[^=;]*\\).*\\{").matcher(lines.get(i));
            if (head.matches()) {
                int end = lines.subList(i, lines.size()).indexOf(head.group(1) + "}");
                methods++;
                tell(end > 0 && end <= 60, "a method of " + end + " lines: " + lines.get(i));
            }
        }
        tell(methods > 50, "only " + methods + " methods were found");
    }

    private FaceTest() {
    }
}
