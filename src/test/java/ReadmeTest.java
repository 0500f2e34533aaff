import java.io.IOException;
import java.lang.reflect.Method;
import java.lang.reflect.Modifier;
import java.nio.charset.StandardCharsets;
import java.nio.file.Files;
import java.nio.file.Path;
import java.util.regex.Matcher;
import java.util.regex.Pattern;
import javax.tools.ToolProvider;

/**
 * What README.md says of the class: its code compiles, each call in it answers what stands behind it, every call of
 * the face is named, and every test of the project is.
 */
public final class ReadmeTest {
    /** Where .ci/run puts the tests' classes: a class from elsewhere could not call Check. */
    private static final Path BUILT = Path.of("build/test");
    private static final Pattern TOLD = Pattern.compile("x\\.(\\w+)\\((.*)\\); +// (-?\\d+|NONE|BAD|STATE|FULL): \\S.*");
    private static final Pattern FEEDING = Pattern.compile("x\\.feed\\((text\\.charAt\\(i\\)|' ')\\);");

    private ReadmeTest() {
    }

    public static void main(String[] args) throws Exception {
        String readme = Files.readString(Path.of("README.md"), StandardCharsets.UTF_8);
        String code = code(readme);
        constantsAreTold(readme);
        callsAreNamed(code);
        testsAreNamed(readme);
        run(program(code));
        Check.end();
    }

    /** The pieces of code, in their order. */
    private static String code(String readme) {
        StringBuilder code = new StringBuilder();
        Matcher piece = Pattern.compile("(?s)```java\n(.*?)```").matcher(readme);
        while (piece.find()) {
            code.append(piece.group(1));
        }
        return code.toString();
    }

    private static void constantsAreTold(String readme) {
        Object[][] rows = {{"NONE", VineLaws.NONE}, {"BAD", VineLaws.BAD}, {"STATE", VineLaws.STATE}, {"FULL", VineLaws.FULL}};
        for (Object[] row : rows) {
            String told = "| " + row[1] + " | `" + row[0] + "` |";
            Check.due("README.md tells " + told, readme.contains(told) ? 1 : 0, 1);
        }
    }

    private static void callsAreNamed(String code) {
        for (Method method : VineLaws.class.getDeclaredMethods()) {
            if (Modifier.isPublic(method.getModifiers())) {
                boolean named = code.contains("x." + method.getName() + "(");
                Check.due("README.md uses " + method.getName(), named ? 1 : 0, 1);
            }
        }
    }

    private static void testsAreNamed(String readme) throws IOException {
        try (var files = Files.newDirectoryStream(Path.of("src/test/java"), "*Test.java")) {
            for (Path file : files) {
                String name = file.getFileName().toString().replace(".java", "");
                Check.due("README.md names " + name, readme.contains(name) ? 1 : 0, 1);
            }
        }
        Check.due("README.md tells how tests are run", readme.contains("    .ci/run\n") ? 1 : 0, 1);
    }

    /** The code as a program, in which each call's answer is held against what stands behind it. */
    private static String program(String code) {
        StringBuilder program = new StringBuilder("public final class ReadmeRuns implements Runnable {\n"
            + "static final int NONE = -1000000, BAD = -1000001, STATE = -1000002, FULL = -1000003;\n"
            + "public void run() {\n");
        for (String line : code.split("\n")) {
            Matcher told = TOLD.matcher(line.trim());
            if (told.matches()) {
                String call = "x." + told.group(1) + "(" + told.group(2) + ")";
                program.append("Check.due(\"README.md: ").append(call).append("\", ");
                program.append(call).append(", ").append(told.group(3)).append(");\n");
            } else {
                boolean calls = line.contains("x.") && !FEEDING.matcher(line.trim()).matches();
                Check.due("README.md tells no answer: " + line.trim(), calls ? 1 : 0, 0);
                program.append(line).append('\n');
            }
        }
        return program.append("}\n}\n").toString();
    }

    private static void run(String program) throws Exception {
        Path file = BUILT.resolve("ReadmeRuns.java");
        Files.writeString(file, program, StandardCharsets.UTF_8);
        int failed = ToolProvider.getSystemJavaCompiler().run(null, null, null, "--release", "17",
            "-cp", System.getProperty("java.class.path"), "-d", BUILT.toString(), file.toString());
        Check.due("README.md's code, compiled,", failed, 0);
        if (failed == 0) {
            ((Runnable) Class.forName("ReadmeRuns").getDeclaredConstructor().newInstance()).run();
        }
    }
}
