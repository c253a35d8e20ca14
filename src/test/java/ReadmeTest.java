import java.io.IOException;
import java.lang.reflect.Method;
import java.nio.file.DirectoryStream;
import java.nio.file.Files;
import java.nio.file.Path;
import java.util.regex.Matcher;
import java.util.regex.Pattern;
import javax.tools.ToolProvider;

/** The example of README.md is compiled and answers what stands behind it; every call and every test is named. */
public final class ReadmeTest {
    private static final String NAME = "ReadmeExample";
    private static final String BLOCK = "```java\n";
    private static final Pattern PROMISED =
            Pattern.compile("(?:int \\w+ = )?(x\\.[^;]+); +// (answers|throws) (-?\\w+).*");

    public static void main(String[] args) throws Exception {
        String readme = Files.readString(Path.of("README.md"));
        int start = readme.indexOf(BLOCK) + BLOCK.length();
        String example = readme.substring(start, readme.indexOf("```", start));
        runExample(source(example));
        int promised = example.split("// (answers|throws) ").length - 1;
        Check.note("answers of the example", Integer.toString(Check.checkedSoFar()), Integer.toString(promised));
        checkNames(readme);
        Check.end();
    }

    private static String source(String example) {
        StringBuilder text = new StringBuilder();
        text.append("public final class ").append(NAME).append(" {\n  public static void main(String[] args) {\n");
        example.lines().forEach(line -> text.append(checked(line)).append('\n'));
        return text.append("  }\n}\n").toString();
    }

    /** A line that says what is answered or thrown becomes a check of that. */
    private static String checked(String line) {
        Matcher promised = PROMISED.matcher(line);
        if (!promised.matches()) {
            return line;
        }
        String call = promised.group(1);
        boolean isThrown = promised.group(2).equals("throws");
        String start = isThrown ? "Check.dueThrows(" : "Check.due(";
        String end = isThrown ? promised.group(3) + ".class" : promised.group(3);
        if (line.startsWith("int ")) {
            String name = line.substring("int ".length(), line.indexOf(" ="));
            return line + "\n" + start + "\"" + call + "\", () -> " + name + ", " + end + ");";
        }
        return start + "\"" + call + "\", () -> " + call + ", " + end + ");";
    }

    /** The example is compiled beside the tests, where it finds Check. */
    private static void runExample(String source) throws Exception {
        Path folder = Path.of(ReadmeTest.class.getProtectionDomain().getCodeSource().getLocation().toURI());
        Path file = Files.writeString(folder.resolve(NAME + ".java"), source);
        int exit = ToolProvider.getSystemJavaCompiler().run(null, null, null, "-cp", folder.toString(), "-d",
                folder.toString(), file.toString());
        if (exit == 0) {
            Class.forName(NAME).getMethod("main", String[].class).invoke(null, (Object) new String[0]);
        }
    }

    private static void checkNames(String readme) throws IOException {
        for (Method method : BatchPlans.class.getMethods()) {
            if (method.getDeclaringClass() == BatchPlans.class) {
                Check.note("the call " + method.getName() + " is named",
                        Boolean.toString(readme.contains("`" + method.getName() + "(")), "true");
            }
        }
        try (DirectoryStream<Path> tests = Files.newDirectoryStream(Path.of("src/test/java"), "*.java")) {
            for (Path test : tests) {
                Check.note("the test " + test + " is named",
                        Boolean.toString(readme.contains(test.getFileName().toString())), "true");
            }
        }
    }
}
