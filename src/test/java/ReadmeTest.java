import java.io.IOException;
import java.net.URL;
import java.net.URLClassLoader;
import java.nio.file.Files;
import java.nio.file.Path;
import java.util.ArrayList;
import java.util.List;
import java.util.regex.Matcher;
import java.util.regex.Pattern;
import javax.tools.ToolProvider;

/** The calls that README.md shows answer what stands behind them. */
public final class ReadmeTest {
    private static final Pattern CALL =
            Pattern.compile("((?:int \\w+ = )?)(house\\..*\\)); +// ('.'|[^' :]+)(?:: .*)?");

    private ReadmeTest() {
    }

    public static void main(String[] args) throws IOException, ReflectiveOperationException {
        List<String> calls = new ArrayList<>();
        List<String> due = new ArrayList<>();
        StringBuilder program = new StringBuilder("public final class Page {\n"
                + "    public static void answer(java.util.List<String> got) {\n");
        for (String line : example(Files.readString(Path.of("README.md")))) {
            program.append(line).append('\n');
            Matcher call = CALL.matcher(line);
            if (call.matches()) {
                program.setLength(program.length() - line.length() - 1);
                program.append(told(call, calls.size()));
                calls.add(call.group(2));
                due.add(call.group(3).replace("'", ""));
            } else {
                Check.same("README.md: an answer stands behind " + line, false, line.contains("house."));
            }
        }
        List<String> got = answers(program.append("    }\n}\n").toString());
        Check.same("README.md: answers", due.size(), got.size());
        for (int i = 0; i < got.size() && i < due.size(); i++) {
            Check.same("README.md: " + calls.get(i), due.get(i), got.get(i));
        }
        Check.end("ReadmeTest");
    }

    /** The lines of the one block of Java. */
    private static List<String> example(String page) {
        Matcher block = Pattern.compile("(?s)```java\n(.*?)```").matcher(page);
        Check.same("README.md has an example", true, block.find());
        return List.of(block.group(1).split("\n"));
    }

    /** The call in a line of a program that keeps its answer as a text. */
    private static String told(Matcher call, int number) {
        String name = call.group(1).isEmpty() ? "answer" + number : call.group(1).split(" ")[1];
        return "var " + name + " = " + call.group(2) + "; got.add(String.valueOf(" + name + "));\n";
    }

    private static List<String> answers(String program) throws IOException, ReflectiveOperationException {
        Path place = Files.createTempDirectory("page");
        Path file = place.resolve("Page.java");
        // What is told first is deleted last.
        for (Path own : List.of(place, file, place.resolve("Page.class"))) {
            own.toFile().deleteOnExit();
        }
        Files.writeString(file, program);
        String classes = System.getProperty("java.class.path");
        int code = ToolProvider.getSystemJavaCompiler().run(null, null, null,
                "-cp", classes, "-d", place.toString(), file.toString());
        Check.same("README.md: the example compiles", 0, code);
        List<String> got = new ArrayList<>();
        try (URLClassLoader loader = new URLClassLoader(new URL[] {place.toUri().toURL()})) {
            loader.loadClass("Page").getMethod("answer", List.class).invoke(null, got);
        }
        return got;
    }
}
