import java.io.File;
import java.io.IOException;
import java.lang.reflect.Field;
import java.lang.reflect.Method;
import java.lang.reflect.Modifier;
import java.net.URL;
import java.net.URLClassLoader;
import java.nio.file.Files;
import java.nio.file.Path;
import java.util.ArrayList;
import java.util.List;
import java.util.regex.Matcher;
import java.util.regex.Pattern;
import java.util.stream.Stream;
import javax.tools.ToolProvider;

/** README.md: its example, run as it is written there, and that it leaves out no call, constant or test. */
public final class ReadmeTest {
    private static final Checks C = new Checks("ReadmeTest");
    private static final Pattern ANSWERED =
        Pattern.compile("(?:int (\\w+) = )?(x\\.\\w+\\([^;]*\\)); *// (-?\\d+|[A-Z]+):.*");

    private record Line(String call, long due) {
    }

    private static void is(String what, boolean holds) {
        C.due(what, holds ? 1 : 0, 1);
    }

    // ---- the example

    private static String exampleOf(String readme) {
        int from = readme.indexOf("```java\n");
        int to = readme.indexOf("```", from + 8);
        return from < 0 || to < 0 ? "" : readme.substring(from + 8, to);
    }

    private static long numberOf(String due) throws ReflectiveOperationException {
        boolean isName = Character.isLetter(due.charAt(0));
        return isName ? NineDrawers.class.getField(due).getInt(null) : Long.parseLong(due);
    }

    /** The example as a class whose answers() tells what each line that has an answer beside it answered. */
    private static String asClass(String example, List<Line> lines) throws ReflectiveOperationException {
        StringBuilder body = new StringBuilder();
        for (String line : example.split("\n")) {
            Matcher m = ANSWERED.matcher(line.strip());
            if (m.matches()) {
                String kept = m.group(1) == null ? "" : "int " + m.group(1) + " = (int) ";
                body.append(kept).append("tell(").append(m.group(2)).append(");\n");
                lines.add(new Line(m.group(2), numberOf(m.group(3))));
            } else {
                boolean isCall = line.strip().startsWith("x.") && !line.contains("x.letter(");
                is("an answer is written beside '" + line.strip() + "'", !isCall);
                body.append(line).append('\n');
            }
        }
        return "public final class ReadmeExample {\n"
            + "static final java.util.List<Long> told = new java.util.ArrayList<>();\n"
            + "static long tell(long answer) { told.add(answer); return answer; }\n"
            + "public static java.util.List<Long> answers() {\n" + body + "return told;\n}\n}\n";
    }

    private static List<?> answersOf(String source) throws IOException, ReflectiveOperationException {
        Path folder = Files.createTempDirectory("readme");
        try {
            Path file = folder.resolve("ReadmeExample.java");
            Files.writeString(file, source);
            int code = ToolProvider.getSystemJavaCompiler().run(null, null, null,
                "-cp", System.getProperty("java.class.path"), "-d", folder.toString(), file.toString());
            C.due("javac of the example", code, 0);
            if (code != 0) {
                return List.of();
            }
            try (URLClassLoader loader = new URLClassLoader(new URL[] {folder.toUri().toURL()})) {
                return (List<?>) loader.loadClass("ReadmeExample").getMethod("answers").invoke(null);
            }
        } finally {
            for (File left : folder.toFile().listFiles()) {
                left.delete();
            }
            folder.toFile().delete();
        }
    }

    private static void example(String readme) throws IOException, ReflectiveOperationException {
        C.part("the example");
        List<Line> lines = new ArrayList<>();
        List<?> told = answersOf(asClass(exampleOf(readme), lines));
        is("there are answers in the example", !lines.isEmpty());
        C.due("answers", told.size(), lines.size());
        for (int i = 0; i < lines.size() && i < told.size(); i++) {
            C.due(lines.get(i).call(), (Long) told.get(i), lines.get(i).due());
        }
    }

    // ---- what it names

    private static void names(String readme) throws IOException, ReflectiveOperationException {
        C.part("what it names");
        for (Method m : NineDrawers.class.getDeclaredMethods()) {
            if (Modifier.isPublic(m.getModifiers())) {
                is("a row for " + m.getName() + "()", readme.contains("| `" + m.getName() + "("));
            }
        }
        for (Field f : NineDrawers.class.getFields()) {
            String told = "`" + f.getName() + "` (" + f.getInt(null) + ")";
            is(told + " is told", readme.contains(told));
        }
        try (Stream<Path> files = Files.list(Path.of("src/test/java"))) {
            for (Path file : files.toList()) {
                is(file + " is told", readme.contains("`src/test/java/" + file.getFileName() + "`"));
            }
        }
        is("how the tests are run is told", readme.contains("    .ci/run\n"));
    }

    public static void main(String[] args) throws Exception {
        String readme = Files.readString(Path.of("README.md"));
        example(readme);
        names(readme);
        C.end();
    }
}
