import java.net.URL;
import java.net.URLClassLoader;
import java.nio.charset.StandardCharsets;
import java.nio.file.Files;
import java.nio.file.Path;
import java.nio.file.Paths;
import java.util.ArrayList;
import java.util.List;
import java.util.regex.Matcher;
import java.util.regex.Pattern;

/** The examples of README.md, run as they stand there: each call must answer what is told behind it. */
public final class ReadmeTest {
    private static final Pattern BLOCK = Pattern.compile("```java\n(.*?)```", Pattern.DOTALL);
    private static final Pattern CALL = Pattern.compile("(x\\.\\w+\\(.*?\\));\\s*// (-?\\d+|true|false|throws \\w+): \\S.*");
    private static final String HEAD = "public final class ReadmeExample {\n"
            + "    interface Call { Object answer() throws Exception; }\n"
            + "    static int calls = 0;\n"
            + "    static int wrong = 0;\n"
            + "    static void due(String text, Call call, String want) {\n"
            + "        String got;\n"
            + "        try {\n"
            + "            got = String.valueOf(call.answer());\n"
            + "        } catch (Exception e) {\n"
            + "            got = \"throws \" + e.getClass().getSimpleName();\n"
            + "        }\n"
            + "        calls++;\n"
            + "        if (!got.equals(want)) {\n"
            + "            wrong++;\n"
            + "            System.out.println(\"README.md: \" + text + \" answered \" + got + \", told is \" + want);\n"
            + "        }\n"
            + "    }\n";

    public static void main(String[] args) throws Exception {
        StringBuilder program = new StringBuilder(HEAD);
        StringBuilder run = new StringBuilder();
        int examples = 0;
        for (String block : blocks()) {
            if (block.contains("static ")) {
                program.append(block);
            } else {
                program.append("static void example").append(examples).append("() {\n").append(stepsOf(block)).append("}\n");
                run.append("example").append(examples).append("();\n");
                examples++;
            }
        }
        program.append("public static int[] run() {\n").append(run).append("return new int[] {calls, wrong};\n}\n}\n");
        int[] answers = compileAndRun(program.toString());
        Check.due("examples", examples, 2);
        Check.due("some calls are told", answers[0] >= 40, true);
        Check.due("answers of README.md that are not so", answers[1], 0);
        Check.end();
    }

    private static List<String> blocks() throws Exception {
        List<String> blocks = new ArrayList<>();
        Matcher found = BLOCK.matcher(new String(Files.readAllBytes(Paths.get("README.md")), StandardCharsets.UTF_8));
        while (found.find()) {
            blocks.add(found.group(1));
        }
        return blocks;
    }

    /** A call without an answer behind it would be run, but not looked at: it is refused. */
    private static String stepsOf(String block) {
        StringBuilder steps = new StringBuilder();
        for (String line : block.split("\n")) {
            Matcher call = CALL.matcher(line);
            if (call.matches()) {
                steps.append("due(\"").append(call.group(1)).append("\", () -> ").append(call.group(1));
                steps.append(", \"").append(call.group(2)).append("\");\n");
            } else {
                Check.due("a call without its answer: " + line, line.trim().startsWith("x."), false);
                steps.append(line).append('\n');
            }
        }
        return steps.toString();
    }

    private static int[] compileAndRun(String program) throws Exception {
        Path directory = Files.createTempDirectory("readme");
        Path source = directory.resolve("ReadmeExample.java");
        Path compiled = directory.resolve("ReadmeExample.class");
        Path inside = directory.resolve("ReadmeExample$Call.class");
        try {
            Files.write(source, program.getBytes(StandardCharsets.UTF_8));
            int code = new ProcessBuilder("javac", "-cp", System.getProperty("java.class.path"), "-d", directory.toString(),
                    source.toString()).inheritIO().start().waitFor();
            Check.due("README.md's examples compile", code, 0);
            if (code != 0) {
                return new int[] {0, 1};
            }
            try (URLClassLoader loader = new URLClassLoader(new URL[] {directory.toUri().toURL()})) {
                return (int[]) loader.loadClass("ReadmeExample").getMethod("run").invoke(null);
            }
        } finally {
            for (Path path : new Path[] {source, compiled, inside, directory}) {
                Files.deleteIfExists(path);
            }
        }
    }
}
