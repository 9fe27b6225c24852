import java.io.IOException;
import java.net.URL;
import java.net.URLClassLoader;
import java.nio.file.Files;
import java.nio.file.Path;
import java.util.ArrayList;
import java.util.List;
import javax.tools.ToolProvider;

/**
 * Compiles the Java of README.md and runs it: each call with a remark behind it is to answer as the remark begins
 * (its first word, without a colon), an exception by its name; each other line is to be Java as it stands.
 */
public final class ReadmeTest {
    private static final String EXAMPLE = "ReadmeExample";
    private static final int LEAST_ANSWERS = 10;

    public static void main(String[] args) throws IOException, ReflectiveOperationException {
        List<String> helpers = new ArrayList<>();
        List<String> calls = new ArrayList<>();
        for (String block : javaBlocks(Files.readString(Path.of("README.md")))) {
            (block.startsWith("static ") ? helpers : calls).add(block);
        }
        List<String> due = new ArrayList<>();
        String source = sourceOf(helpers, calls, due);
        int wrong = due.size() < LEAST_ANSWERS ? 1 : 0;
        List<?> got = answersOf(source);
        for (int i = 0; i < due.size(); i++) {
            String call = due.get(i);
            String answer = i < got.size() ? String.valueOf(got.get(i)) : "nothing";
            if (!firstWord(remarkOf(call)).equals(answer)) {
                wrong++;
                System.out.println("README.md: " + call + " (answered " + answer + ")");
            }
        }
        System.out.println(wrong == 0 ? "all " + due.size() + " answers are as README.md says" : "README.md is wrong");
        if (wrong != 0) {
            System.exit(1);
        }
    }

    private static List<String> javaBlocks(String text) {
        List<String> blocks = new ArrayList<>();
        String[] parts = text.split("```java\n");
        for (int i = 1; i < parts.length; i++) {
            blocks.add(parts[i].substring(0, parts[i].indexOf("```")));
        }
        return blocks;
    }

    private static String sourceOf(List<String> helpers, List<String> blocks, List<String> due) {
        StringBuilder source = new StringBuilder("import java.util.*;\npublic final class " + EXAMPLE + " {\n"
                + "static final List<String> GOT = new ArrayList<>();\n");
        helpers.forEach(source::append);
        source.append("public static List<String> run() {\n");
        for (String block : blocks) {
            source.append("{\n");
            for (String line : block.split("\n")) {
                boolean answers = !line.startsWith("//") && line.contains(";") && !remarkOf(line).isEmpty();
                if (answers) {
                    due.add(line);
                }
                source.append(answers ? kept(callOf(line)) : line).append('\n');
            }
            source.append("}\n");
        }
        return source.append("return GOT;\n}\n}\n").toString();
    }

    private static String kept(String call) {
        return "try { GOT.add(String.valueOf(" + call + ")); }"
                + " catch (RuntimeException e) { GOT.add(e.getClass().getSimpleName()); }";
    }

    private static String callOf(String line) {
        return line.substring(0, line.lastIndexOf(';', line.indexOf("// ")));
    }

    private static String remarkOf(String line) {
        int at = line.indexOf("// ");
        return at < 0 ? "" : line.substring(at + 3).trim();
    }

    private static String firstWord(String remark) {
        return remark.split("[: ]", 2)[0];
    }

    private static List<?> answersOf(String source) throws IOException, ReflectiveOperationException {
        Path folder = Files.createTempDirectory("readme");
        Path file = folder.resolve(EXAMPLE + ".java");
        Files.writeString(file, source);
        String classes = System.getProperty("java.class.path");
        int failed = ToolProvider.getSystemJavaCompiler()
                .run(null, null, null, "-cp", classes, "-d", folder.toString(), file.toString());
        if (failed != 0) {
            return List.of();
        }
        try (URLClassLoader loader = new URLClassLoader(new URL[] {folder.toUri().toURL()})) {
            return (List<?>) loader.loadClass(EXAMPLE).getMethod("run").invoke(null);
        } finally {
            Files.delete(folder.resolve(EXAMPLE + ".class"));
            Files.delete(file);
            Files.delete(folder);
        }
    }
}
