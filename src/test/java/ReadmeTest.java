import java.io.File;
import java.io.IOException;
import java.lang.reflect.Method;
import java.lang.reflect.Modifier;
import java.net.URL;
import java.net.URLClassLoader;
import java.nio.file.Files;
import java.nio.file.Path;
import java.util.ArrayList;
import java.util.List;
import java.util.Set;
import java.util.TreeSet;
import java.util.regex.Matcher;
import java.util.regex.Pattern;
import javax.tools.JavaCompiler;
import javax.tools.ToolProvider;

/** README.md: its example compiles and answers as it says; it names every call and every test; its commands are those of .ci/run. */
public final class ReadmeTest {
    private static final Pattern CALL = Pattern.compile("(?:int (\\w+) = )?(x\\.\\w+\\(.*\\)); +// (-?[0-9.]+)(?::.*)?");

    public static void main(String[] args) throws Exception {
        String readme = Files.readString(Path.of("README.md"));
        String example = only("java", blocks(readme, "java"));
        judgeExample(example);
        everyCallIsNamed(readme);
        everyTestIsNamed(readme);
        judgeCommands(blocks(readme, "sh"), Files.readString(Path.of(".ci/run")));
        Due.end();
    }

    private static List<String> blocks(String text, String language) {
        List<String> blocks = new ArrayList<>();
        Matcher m = Pattern.compile("^```" + language + "\n(.*?)^```$", Pattern.MULTILINE | Pattern.DOTALL).matcher(text);
        while (m.find()) {
            blocks.add(m.group(1));
        }
        return blocks;
    }

    private static String only(String language, List<String> blocks) {
        Due.is("blocks of " + language, blocks.size(), 1);
        return blocks.isEmpty() ? "" : blocks.get(0);
    }

    // The example

    private static void judgeExample(String example) throws Exception {
        List<String> calls = new ArrayList<>();
        List<Double> due = new ArrayList<>();
        StringBuilder asked = new StringBuilder();
        for (String line : example.split("\n")) {
            Matcher m = CALL.matcher(line);
            if (m.matches()) {
                calls.add(line);
                due.add(Double.valueOf(m.group(3)));
                String kept = m.group(1) == null ? "" : "int " + m.group(1) + " = said.get(said.size() - 1).intValue();";
                asked.append("said.add(").append(m.group(2)).append(");").append(kept).append('\n');
            } else if (line.contains("x.")) {
                Due.tell("the example's line tells no answer: " + line);
            } else {
                asked.append(line).append('\n');
            }
        }
        List<?> said = answers(example, asked.toString());
        Due.is("the example's answers", said.size(), due.size());
        for (int k = 0; k < said.size() && k < due.size(); k++) {
            Due.real("the example's line '" + calls.get(k) + "'", ((Number) said.get(k)).doubleValue(), due.get(k));
        }
    }

    /** The example is compiled twice: as README.md has it, and with each answer kept. */
    private static List<?> answers(String asWritten, String asked) throws Exception {
        Path folder = Files.createTempDirectory("readme");
        Path file = folder.resolve("ReadmeExample.java");
        Files.writeString(file, "public class ReadmeExample {\n"
                + "static void asWritten() {\n" + asWritten + "}\n"
                + "public static java.util.List<Number> answers() {\n"
                + "java.util.List<Number> said = new java.util.ArrayList<>();\n" + asked + "return said;\n}\n}\n");
        try {
            JavaCompiler compiler = ToolProvider.getSystemJavaCompiler();
            String found = System.getProperty("java.class.path");
            int code = compiler.run(null, null, null, "-cp", found, "-d", folder.toString(), file.toString());
            Due.is("javac of the example", code, 0);
            return code == 0 ? ask(folder) : List.of();
        } finally {
            removeAll(folder);
        }
    }

    private static List<?> ask(Path folder) throws Exception {
        try (URLClassLoader loader = new URLClassLoader(new URL[] {folder.toUri().toURL()})) {
            return (List<?>) loader.loadClass("ReadmeExample").getMethod("answers").invoke(null);
        }
    }

    private static void removeAll(Path folder) throws IOException {
        for (File file : folder.toFile().listFiles()) {
            Files.delete(file.toPath());
        }
        Files.delete(folder);
    }

    // What is named

    private static void everyCallIsNamed(String readme) {
        Set<String> there = new TreeSet<>();
        for (Method m : NestTables.class.getDeclaredMethods()) {
            if (Modifier.isPublic(m.getModifiers())) {
                there.add(m.getName() + " with " + m.getParameterCount());
            }
        }
        Set<String> named = new TreeSet<>();
        for (String call : found(readme, "^\\| `(\\w+\\([^)]*\\))` \\|")) {
            int open = call.indexOf('(');
            String inside = call.substring(open + 1, call.length() - 1);
            named.add(call.substring(0, open) + " with " + (inside.isEmpty() ? 0 : inside.split(", ").length));
        }
        Due.text("the calls that README.md names", named.toString(), there.toString());
    }

    private static void everyTestIsNamed(String readme) {
        Set<String> there = new TreeSet<>();
        for (String file : Path.of("src/test/java").toFile().list()) {
            if (file.endsWith("Test.java")) {
                there.add(file.substring(0, file.length() - ".java".length()));
            }
        }
        Due.text("the tests that README.md names", found(readme, "`(\\w+Test)`").toString(), there.toString());
    }

    private static Set<String> found(String text, String form) {
        Set<String> found = new TreeSet<>();
        Matcher m = Pattern.compile(form, Pattern.MULTILINE).matcher(text);
        while (m.find()) {
            found.add(m.group(1));
        }
        return found;
    }

    // The commands

    private static void judgeCommands(List<String> blocks, String ci) throws Exception {
        Due.is("blocks of commands", blocks.size(), 2);
        if (blocks.size() != 2) {
            return;
        }
        Due.text("the command that runs all tests", blocks.get(0), ".ci/run\n");
        Due.is(".ci/run can be run", new File(".ci/run").canExecute() ? 1 : 0, 1);
        for (String line : blocks.get(1).split("\n")) {
            if (line.startsWith("javac ") || line.startsWith("main=")) {
                Due.is(".ci/run has '" + line + "'", ci.contains(line) ? 1 : 0, 1);
            }
        }
        Due.is("exit code of the commands by hand", exitCode(blocks.get(1)), 0);
    }

    private static int exitCode(String commands) throws Exception {
        String tidied = "trap 'rm -rf \"$out\"' EXIT\n" + commands;
        Process shell = new ProcessBuilder("sh", "-e", "-c", tidied).redirectErrorStream(true).start();
        String said = new String(shell.getInputStream().readAllBytes());
        int code = shell.waitFor();
        if (code != 0) {
            System.out.println(said);
        }
        return code;
    }
}
