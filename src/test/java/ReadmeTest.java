import java.lang.reflect.Method;
import java.lang.reflect.Modifier;
import java.net.URL;
import java.net.URLClassLoader;
import java.nio.file.Files;
import java.nio.file.Path;
import java.util.ArrayList;
import java.util.List;
import java.util.regex.Matcher;
import java.util.regex.Pattern;
import javax.tools.ToolProvider;

/**
 * The examples of README.md, all of them one program, as they stand there: a call with a comment behind it has to
 * answer what the comment begins with.
 */
public final class ReadmeTest {
    private static final Due due = new Due("ReadmeTest");

    private static final Pattern CALL = Pattern.compile("(x\\.(\\w+)\\(.*\\));\\s+// (-?\\d+|NONE|BAD|STATE|FULL)\\b.*");

    private static final Path README = Path.of("README.md");
    private static final Path FOLDER = Path.of("build/readme");

    public static void main(String[] args) throws Exception {
        List<String> lines = exampleLines();
        List<String> calls = new ArrayList<>();
        List<Long> wanted = new ArrayList<>();
        List<String> names = new ArrayList<>();
        StringBuilder program = new StringBuilder();
        for (String line : lines) {
            Matcher call = CALL.matcher(line);
            boolean isTold = call.matches();
            due.holds(line + ": an answer stands behind the call", isTold || !line.startsWith("x."));
            if (isTold) {
                program.append("answers[").append(calls.size()).append("] = ").append(call.group(1)).append(";\n");
                calls.add(call.group(1));
                wanted.add(valueOf(call.group(3)));
                names.add(call.group(2));
            } else {
                program.append(line).append('\n');
            }
        }
        everyCallIsShown(names, String.join("\n", lines));
        long[] answers = run(program.toString(), calls.size());
        for (int i = 0; i < calls.size(); i++) {
            due.is(calls.get(i), answers[i], wanted.get(i));
        }
        due.end();
    }

    private static List<String> exampleLines() throws Exception {
        List<String> lines = new ArrayList<>();
        boolean within = false;
        for (String line : Files.readAllLines(README)) {
            if (line.startsWith("```")) {
                within = line.equals("```java");
            } else if (within) {
                lines.add(line);
            }
        }
        return lines;
    }

    private static long valueOf(String answer) {
        switch (answer) {
            case "NONE":
                return Due.NONE;
            case "BAD":
                return Due.BAD;
            case "STATE":
                return Due.STATE;
            case "FULL":
                return Due.FULL;
            default:
                return Long.parseLong(answer);
        }
    }

    private static void everyCallIsShown(List<String> names, String text) {
        for (Method method : LampSquares.class.getDeclaredMethods()) {
            String name = method.getName();
            boolean shown = names.contains(name);
            due.holds(name + " is shown", shown || !Modifier.isPublic(method.getModifiers()));
        }
        due.holds("the constructor is shown", text.contains("new LampSquares()"));
    }

    private static long[] run(String program, int calls) throws Exception {
        Files.createDirectories(FOLDER);
        Path source = FOLDER.resolve("ReadmeExample.java");
        Files.writeString(source, "public final class ReadmeExample {\n"
                + "public static long[] answers() {\nlong[] answers = new long[" + calls + "];\n"
                + program + "return answers;\n}\n}\n");
        int flaw = ToolProvider.getSystemJavaCompiler().run(null, null, null, "-encoding", "UTF-8",
                "-cp", System.getProperty("java.class.path"), "-d", FOLDER.toString(), source.toString());
        due.is("compiling the examples", flaw, 0);
        if (flaw != 0) {
            return new long[calls];
        }
        try (URLClassLoader loader = new URLClassLoader(new URL[] {FOLDER.toUri().toURL()})) {
            return (long[]) loader.loadClass("ReadmeExample").getMethod("answers").invoke(null);
        }
    }
}
