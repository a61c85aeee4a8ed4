import java.io.IOException;
import java.lang.reflect.Constructor;
import java.lang.reflect.Field;
import java.lang.reflect.Method;
import java.lang.reflect.Modifier;
import java.nio.file.Files;
import java.nio.file.Path;
import java.util.Set;
import java.util.TreeSet;

/** The face that the document tells, and the rules of LANGUAGE.md that can be read off the source. */
public final class LanguageTest {
    private static final Due due = new Due("LanguageTest");

    private static final String[] FACE = {
        "int row(int, int, int)", "int set(int, int, int)", "int copy(int, int, int, int, int)", "int drop(int)",
        "int feed(int)", "int door()", "int fault()", "int undo()",
        "int pose(int, int)", "int strict(int)", "int share(int, int)", "int settle(int)",
        "int square(int, int)", "int visitor(int, int)", "int sees(int, int)",
        "int clicks(int)", "int wrong(int, int)", "int guests(int)", "int fewest(int, int)", "int harsh(int, int)",
        "int keen(int)", "int tells(int, int)", "int learned(int)", "int needs(int)", "int save(int, int)",
        "int shares(int, int, int)", "int kinds(int, int, int)", "int who(int, int)", "int cares(int, int, int)",
        "long slip(int, int, int, int)", "int drawn(int, int, int)", "int image(int)", "int restore(int)",
        "int kind(int)", "int as(int, int)", "int ask(int, int)", "int trace(int)", "int count(int)", "int status()",
    };

    private static final String[] RULED_OUT = {
        "\\b(throw|throws|try|catch|synchronized|assert|default\\s+void|native|volatile|transient)\\b",
        "->", "::", "\\bstatic\\s*\\{", "Exact\\s*\\(", "\\b(hashCode|toString|equals)\\s*\\(",
        "\\b(System\\.(?!arraycopy)|Thread|Random|Object|Runtime|Integer\\.valueOf)\\b", "\\?\\s*>", "\\[\\]\\[\\]\\[\\]",
    };

    public static void main(String[] args) throws IOException {
        face();
        constants();
        String source = Files.readString(Path.of("src/main/java/LampSquares.java"));
        String bare = withoutCommentsAndTexts(source);
        words(bare);
        imports(bare);
        newObjects(bare);
        methodsAreShort(bare);
        due.end();
    }

    private static void face() {
        due.holds("the class is public and final",
                LampSquares.class.getModifiers() == (Modifier.PUBLIC | Modifier.FINAL));
        Set<String> told = new TreeSet<>(Set.of(FACE));
        Set<String> there = new TreeSet<>();
        Set<String> publicNames = new TreeSet<>();
        for (Method method : LampSquares.class.getDeclaredMethods()) {
            if (Modifier.isPublic(method.getModifiers())) {
                there.add(signature(method));
                publicNames.add(method.getName());
            } else {
                due.holds(method.getName() + " is private", Modifier.isPrivate(method.getModifiers()));
            }
        }
        due.holds("the public methods are " + told + ", not " + there, there.equals(told));
        for (Class<?> inner : LampSquares.class.getDeclaredClasses()) {
            due.holds(inner.getName() + " is static", Modifier.isStatic(inner.getModifiers()));
            due.holds(inner.getName() + " is not public", !Modifier.isPublic(inner.getModifiers()));
            privateNames(inner, publicNames);
        }
        privateNames(LampSquares.class, publicNames);
        Constructor<?>[] made = LampSquares.class.getDeclaredConstructors();
        due.is("constructors", made.length, 1);
        due.holds("the constructor is public", Modifier.isPublic(made[0].getModifiers()));
    }

    private static String signature(Method method) {
        StringBuilder text = new StringBuilder(method.getReturnType().getName() + " " + method.getName() + "(");
        for (Class<?> type : method.getParameterTypes()) {
            text.append(text.charAt(text.length() - 1) == '(' ? "" : ", ").append(type.getName());
        }
        return text.append(')').toString();
    }

    private static void privateNames(Class<?> of, Set<String> publicNames) {
        for (Method method : of.getDeclaredMethods()) {
            boolean hidden = !Modifier.isPublic(method.getModifiers());
            due.holds(method + " has a name of its own", !(hidden && publicNames.contains(method.getName())));
        }
    }

    private static void constants() {
        due.is("NONE", LampSquares.NONE, -1000000);
        due.is("BAD", LampSquares.BAD, -1000001);
        due.is("STATE", LampSquares.STATE, -1000002);
        due.is("FULL", LampSquares.FULL, -1000003);
        int open = 0;
        for (Field field : LampSquares.class.getDeclaredFields()) {
            open += Modifier.isPrivate(field.getModifiers()) ? 0 : 1;
            boolean ofTheClass = Modifier.isStatic(field.getModifiers());
            due.holds(field + " is final, if static", !ofTheClass || Modifier.isFinal(field.getModifiers()));
        }
        due.is("fields that are not private", open, 4);
    }

    private static String withoutCommentsAndTexts(String source) {
        return source.replaceAll("(?s)/\\*.*?\\*/", "").replaceAll("//[^\n]*", "")
                .replaceAll("\"[^\"\n]*\"", "\"\"").replaceAll("'[^'\n]+'", "' '");
    }

    private static void words(String bare) {
        for (String word : RULED_OUT) {
            due.holds("the source is without " + word, !bare.matches("(?s).*(" + word + ").*"));
        }
    }

    private static void imports(String bare) {
        for (String line : bare.split("\n")) {
            due.holds("no package line", !line.startsWith("package"));
            due.holds(line + " is allowed", !line.startsWith("import") || line.equals("import java.util.Arrays;"));
        }
    }

    /** All calls of a run live in one room: only what makes an object of the class makes others. */
    private static void newObjects(String bare) {
        for (String line : bare.split("\n")) {
            boolean makes = line.matches(".*\\bnew\\b.*");
            boolean once = line.contains("final ") || line.trim().equals("ahead[i] = new Door();");
            due.holds(line + " makes an object once", !makes || once);
        }
    }

    private static void methodsAreShort(String bare) {
        int length = 0;
        for (String line : bare.split("\n")) {
            boolean begins = line.matches("( {4}| {8})\\S.*\\) \\{");
            boolean ends = line.matches("( {4}| {8})\\}");
            length = begins ? 1 : length == 0 || ends ? 0 : length + 1;
            due.holds(line + " stands within sixty lines", length <= 60);
        }
    }
}
