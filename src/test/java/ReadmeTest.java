import java.net.URL;
import java.net.URLClassLoader;
import java.nio.file.Files;
import java.nio.file.Path;
import java.util.ArrayList;
import java.util.Comparator;
import java.util.List;
import java.util.function.LongConsumer;
import java.util.regex.Matcher;
import java.util.regex.Pattern;
import java.util.stream.Stream;
import javax.tools.ToolProvider;

/** The Java of README.md, compiled and run: each answer that stands behind '//' there is due. */
public final class ReadmeTest extends Checks {
    private static final Pattern BLOCK = Pattern.compile("(?s)```java\n(.*?)```");

    /** A call, maybe kept in a variable, and the answer told behind it: a number or a constant's name. */
    private static final Pattern TOLD = Pattern.compile(
            "^(?:int (\\w+) = )?(x\\.\\w+\\([^;]*\\));\\s*// (-?\\d+|NONE|UNKNOWN|OUTSIDE|STATE|FULL):.*$");

    private static final int FEWEST_ANSWERS = 25;

    private static String program(String readme, List<String> calls, List<String> wants) {
        StringBuilder out = new StringBuilder("public final class ReadmeProgram {\n"
                + "  public static void run(java.util.function.LongConsumer told) {\n");
        Matcher blocks = BLOCK.matcher(readme);
        while (blocks.find()) {
            for (String line : blocks.group(1).split("\n")) {
                out.append(checked(line, calls, wants)).append('\n');
            }
        }
        return out.append("  }\n}\n").toString();
    }

    private static String checked(String line, List<String> calls, List<String> wants) {
        Matcher m = TOLD.matcher(line);
        if (!m.matches()) {
            return line;
        }
        String kept = m.group(1) == null ? "answer" + calls.size() : m.group(1);
        calls.add(m.group(2));
        wants.add(m.group(3));
        return "int " + kept + " = " + m.group(2) + "; told.accept(" + kept + ");";
    }

    private static long number(String want) {
        switch (want) {
            case "NONE": return NONE;
            case "UNKNOWN": return UNKNOWN;
            case "OUTSIDE": return OUTSIDE;
            case "STATE": return STATE;
            case "FULL": return FULL;
            default: return Long.parseLong(want);
        }
    }

    private static List<Long> answers(Path folder, String program) throws Exception {
        Path source = folder.resolve("ReadmeProgram.java");
        Files.writeString(source, program);
        String classes = System.getProperty("java.class.path");
        int failed = ToolProvider.getSystemJavaCompiler().run(null, null, null,
                "-nowarn", "-cp", classes, "-d", folder.toString(), source.toString());
        due("whether the Java of README.md compiles", failed, 0);
        List<Long> answers = new ArrayList<>();
        if (failed == 0) {
            LongConsumer told = answers::add;
            try (URLClassLoader loader = new URLClassLoader(new URL[] {folder.toUri().toURL()})) {
                loader.loadClass("ReadmeProgram").getMethod("run", LongConsumer.class).invoke(null, told);
            }
        }
        return answers;
    }

    private static void delete(Path folder) throws Exception {
        try (Stream<Path> all = Files.walk(folder)) {
            for (Path p : all.sorted(Comparator.reverseOrder()).toList()) {
                Files.delete(p);
            }
        }
    }

    public static void main(String[] args) throws Exception {
        List<String> calls = new ArrayList<>();
        List<String> wants = new ArrayList<>();
        String program = program(Files.readString(Path.of("README.md")), calls, wants);
        Path folder = Files.createTempDirectory("readme");
        List<Long> answers = answers(folder, program);
        delete(folder);
        due("how many answers there are", answers.size(), calls.size());
        due("whether the answers were found", calls.size() >= FEWEST_ANSWERS ? 1 : 0, 1);
        for (int i = 0; i < answers.size(); i++) {
            due("README.md: " + calls.get(i), answers.get(i), number(wants.get(i)));
        }
        finish(calls.size() + " answers of README.md: ");
    }
}
