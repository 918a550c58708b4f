import java.io.IOException;
import java.lang.reflect.Method;
import java.lang.reflect.Modifier;
import java.net.URL;
import java.net.URLClassLoader;
import java.nio.file.Files;
import java.nio.file.Path;
import java.util.ArrayList;
import java.util.List;
import java.util.regex.Matcher;
import java.util.regex.Pattern;
import java.util.stream.Stream;
import javax.tools.ToolProvider;

/** What README.md shows of the class's use answers as README.md says, and no call is left out. */
public final class ReadmeTest {
    /** A statement and the answer that its comment begins with. */
    private static final Pattern CALL =
            Pattern.compile("(?<call>\\S.*?\\));\\s+// (?<answer>-?\\d+|true|false)(?: .*|: .*)?");
    private static final String NEW_OBJECT = "GrainDole dole = new GrainDole();";

    private static final Check CHECK = new Check();

    /** The examples compiled from README.md call this one. */
    public static void due(String call, int want, int got) {
        CHECK.due("README.md: " + call, want, got);
    }

    public static void due(String call, boolean want, boolean got) {
        CHECK.due("README.md: " + call, want, got);
    }

    public static void main(String[] args) throws Exception {
        String readme = Files.readString(Path.of("README.md"));
        examplesAnswerAsTold(readme);
        everyCallIsNamed(readme);
        CHECK.finish();
    }

    private static void examplesAnswerAsTold(String readme) throws Exception {
        StringBuilder program = new StringBuilder("public final class ReadmeProgram {\n");
        StringBuilder main = new StringBuilder("public static void main(String[] args) {\n");
        int examples = 0;
        for (List<String> block : javaBlocks(readme)) {
            if (block.get(0).startsWith("static ")) {
                program.append(String.join("\n", block)).append('\n');
            } else {
                examples++;
                program.append(example(examples, block));
                main.append("example").append(examples).append("();\n");
            }
        }
        CHECK.due("examples in README.md", true, examples > 0);
        runProgram(program.append(main).append("}\n}\n").toString());
    }

    private static List<List<String>> javaBlocks(String readme) {
        List<List<String>> blocks = new ArrayList<>();
        List<String> open = null;
        for (String line : readme.split("\n")) {
            if (open == null && line.equals("```java")) {
                open = new ArrayList<>();
            } else if (open != null && line.equals("```")) {
                blocks.add(open);
                open = null;
            } else if (open != null) {
                open.add(line);
            }
        }
        CHECK.due("a block of README.md has no end", false, open != null);
        return blocks;
    }

    private static String example(int number, List<String> lines) {
        StringBuilder method = new StringBuilder("private static void example" + number + "() {\n");
        for (String line : lines) {
            Matcher call = CALL.matcher(line);
            if (call.matches()) {
                String name = call.group("call");
                method.append("ReadmeTest.due(\"").append(name.replace("\"", "\\\"")).append("\", ")
                        .append(call.group("answer")).append(", ").append(name).append(");\n");
            } else {
                // Anything else would be shown, but not asked.
                CHECK.due("README.md tells no answer: " + line, true, line.equals(NEW_OBJECT));
                method.append(line).append('\n');
            }
        }
        return method.append("}\n").toString();
    }

    private static void runProgram(String text) throws Exception {
        Path folder = Files.createTempDirectory("readme");
        try {
            Path file = Files.writeString(folder.resolve("ReadmeProgram.java"), text);
            int exit = ToolProvider.getSystemJavaCompiler().run(null, null, null, "-d", folder.toString(),
                    "-cp", System.getProperty("java.class.path"), file.toString());
            CHECK.due("javac of README.md's examples", 0, exit);
            if (exit == 0) {
                callMain(folder);
            }
        } finally {
            remove(folder);
        }
    }

    private static void callMain(Path folder) throws Exception {
        URL[] places = {folder.toUri().toURL()};
        try (URLClassLoader loader = new URLClassLoader(places, ReadmeTest.class.getClassLoader())) {
            loader.loadClass("ReadmeProgram").getMethod("main", String[].class)
                    .invoke(null, (Object) new String[0]);
        }
    }

    private static void remove(Path folder) throws IOException {
        try (Stream<Path> files = Files.list(folder)) {
            for (Path file : (Iterable<Path>) files::iterator) {
                Files.delete(file);
            }
        }
        Files.delete(folder);
    }

    /** The table has each call, with as many arguments as it takes. */
    private static void everyCallIsNamed(String readme) {
        for (Method method : GrainDole.class.getDeclaredMethods()) {
            if (Modifier.isPublic(method.getModifiers())) {
                int count = method.getParameterCount();
                String arguments = count == 0 ? "" : "\\w+" + ", \\w+".repeat(count - 1);
                Pattern row = Pattern.compile("\\| `" + method.getName() + "\\(" + arguments + "\\)` \\|");
                CHECK.due("README.md names " + method.getName(), true, row.matcher(readme).find());
            }
        }
    }
}
