import java.lang.reflect.Method;
import java.net.URL;
import java.net.URLClassLoader;
import java.nio.file.Files;
import java.nio.file.Path;
import java.util.ArrayList;
import java.util.List;
import java.util.regex.Matcher;
import java.util.regex.Pattern;
import javax.tools.ToolProvider;

/** README.md's examples: each is compiled as it stands there, and answers what its comments say. */
public final class ReadmeTest {
    // "int name = post.call(..);   // 12: what that is"
    private static final Pattern SHOWN = Pattern.compile("((?:int|long) (\\w+) = .*;) *// (-?\\d+): .*");
    private static int asked = 0;

    public static void main(String[] args) throws Exception {
        StringBuilder program = new StringBuilder("public final class Shown {\n"
            + "    private static int wrong = 0;\n"
            + "    private static void due(String line, long want, long got) {\n"
            + "        if (got != want) { wrong++; System.out.println(line + \" answered \" + got); }\n"
            + "    }\n"
            + "    public static int wrong() {\n");
        List<List<String>> examples = examples(Files.readAllLines(Path.of("README.md")));
        for (List<String> example : examples) {
            program.append("        {\n");
            for (String line : example) {
                program.append(checked(line));
            }
            program.append("        }\n");
        }
        program.append("        return wrong;\n    }\n}\n");
        int wrong = run(program.toString());
        if (examples.isEmpty() || asked == 0) {
            System.out.println("README.md shows no example");
            wrong++;
        }
        System.out.println(wrong == 0 ? asked + " shown answers are as due" : wrong + " are not as due");
        if (wrong != 0) {
            System.exit(1);
        }
    }

    private static List<List<String>> examples(List<String> page) {
        List<List<String>> all = new ArrayList<>();
        List<String> example = null;
        for (String line : page) {
            if (line.equals("```java")) {
                example = new ArrayList<>();
                all.add(example);
            } else if (line.equals("```")) {
                example = null;
            } else if (example != null) {
                example.add(line);
            }
        }
        return all;
    }

    private static String checked(String line) {
        Matcher shown = SHOWN.matcher(line);
        if (!shown.matches()) {
            return line + "\n";
        }
        asked++;
        // The least long can't be written without its sign standing in the text: so it is read.
        return shown.group(1) + "\n due(\"" + line.replace("\\", "\\\\").replace("\"", "\\\"")
            + "\", Long.parseLong(\"" + shown.group(3) + "\"), " + shown.group(2) + ");\n";
    }

    private static int run(String program) throws Exception {
        Path place = Files.createTempDirectory("readme");
        Path source = place.resolve("Shown.java");
        place.toFile().deleteOnExit();
        source.toFile().deleteOnExit();
        place.resolve("Shown.class").toFile().deleteOnExit();
        Files.writeString(source, program);
        int refused = ToolProvider.getSystemJavaCompiler().run(null, System.out, System.out,
            "-d", place.toString(), "-cp", System.getProperty("java.class.path"), source.toString());
        if (refused != 0) {
            System.out.println("README.md's examples do not compile");
            return 1;
        }
        try (URLClassLoader loader = new URLClassLoader(new URL[] {place.toUri().toURL()})) {
            Method wrong = loader.loadClass("Shown").getMethod("wrong");
            return (int) wrong.invoke(null);
        }
    }
}
