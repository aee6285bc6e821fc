import java.io.File;
import java.io.IOException;
import java.lang.reflect.Method;
import java.lang.reflect.Modifier;
import java.net.URL;
import java.net.URLClassLoader;
import java.nio.file.Files;
import java.nio.file.Path;
import java.util.ArrayList;
import java.util.List;
import java.util.regex.Matcher;
import java.util.regex.Pattern;
import javax.tools.JavaCompiler;
import javax.tools.ToolProvider;

/** README.md's examples are compiled and run as they stand: each call answers what stands behind it. */
public final class ReadmeTest {
    private static final Pattern BLOCK = Pattern.compile("(?s)```java\n(.*?)```");
    /** A call, and behind // its answer, up to a comma or colon that a reader's explanation stands behind. */
    private static final Pattern ANSWERED = Pattern.compile("(\\S.*\\)); +// (-?[\\w.]+(?:\\(\"\\w*\"\\))?)(?:[,:] .*)?");
    private static final String CONSTANTS = "BAD, STATE, FULL, FAILED, TOO_MANY, GONE, NONE, NO";

    public static void main(String[] args) throws Exception {
        String readme = Files.readString(Path.of("README.md"));
        runExamples(readme);
        tellsOfAll(readme);
        Due.end();
    }

    private static void runExamples(String readme) throws Exception {
        List<Object[]> answers = new ArrayList<>();
        Method run = compiled(program(readme)).getMethod("run", List.class);
        run.invoke(null, answers);
        for (Object[] each : answers) {
            Due.holds("README.md: " + each[0] + " answered " + each[1], isSame((Number) each[1], (Number) each[2]));
        }
        Due.holds("README.md has examples", answers.size() > 50);
    }

    private static boolean isSame(Number got, Number want) {
        return got instanceof Double || want instanceof Double ? got.doubleValue() == want.doubleValue()
                : got.longValue() == want.longValue();
    }

    /** The blocks of README.md: methods stand beside one another, all else behind one another. */
    private static String program(String readme) {
        StringBuilder methods = new StringBuilder();
        StringBuilder acts = new StringBuilder();
        Matcher blocks = BLOCK.matcher(readme);
        while (blocks.find()) {
            String block = blocks.group(1);
            if (block.contains("static ")) {
                methods.append(block);
            } else {
                block.lines().forEach(line -> acts.append(act(line)).append('\n'));
            }
        }
        StringBuilder constants = new StringBuilder();
        for (String name : CONSTANTS.split(", ")) {
            constants.append("static final long ").append(name).append(" = ElevatorLedger.").append(name).append(";\n");
        }
        return "public final class ReadmeExample {\n" + constants + methods
                + "public static void run(java.util.List<Object[]> answers) {\n" + acts + "}\n}\n";
    }

    private static String act(String line) {
        Matcher answered = ANSWERED.matcher(line);
        if (!answered.matches()) {
            Due.holds("README.md: \"" + line + "\" has an answer that can be read", !line.contains("//"));
            return line;
        }
        String told = line.replace("\\", "\\\\").replace("\"", "\\\"");
        return "answers.add(new Object[] {\"" + told + "\", " + answered.group(1) + ", " + answered.group(2) + "});";
    }

    private static Class<?> compiled(String program) throws IOException, ClassNotFoundException {
        Path directory = Files.createDirectories(Path.of("build/ReadmeExample"));
        Path source = directory.resolve("ReadmeExample.java");
        Files.writeString(source, program);
        JavaCompiler compiler = ToolProvider.getSystemJavaCompiler();
        int failed = compiler.run(null, null, null, "-cp", System.getProperty("java.class.path"), "-d",
                directory.toString(), source.toString());
        Due.is("README.md's examples are compiled", failed, 0);
        URLClassLoader loader = new URLClassLoader(new URL[] {directory.toUri().toURL()});
        return loader.loadClass("ReadmeExample");
    }

    private static void tellsOfAll(String readme) {
        for (Method method : ElevatorLedger.class.getDeclaredMethods()) {
            if (Modifier.isPublic(method.getModifiers())) {
                Due.holds("README.md tells of " + method.getName(), readme.contains("`" + method.getName() + "("));
            }
        }
        File[] tests = new File("src/test/java").listFiles();
        for (File test : tests == null ? new File[0] : tests) {
            String name = test.getName().replace(".java", "");
            Due.holds("README.md tells of " + name, readme.contains("`" + name + "`"));
        }
    }
}
