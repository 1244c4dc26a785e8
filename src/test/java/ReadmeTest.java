import java.io.IOException;
import java.lang.reflect.Method;
import java.net.URL;
import java.net.URLClassLoader;
import java.nio.file.Files;
import java.nio.file.Path;
import java.util.ArrayList;
import java.util.List;
import java.util.regex.Matcher;
import java.util.regex.Pattern;

/**
 * The lines of Java in README.md answer what stands behind them: a value, or "throws" and an exception, up to a colon.
 * They are made into a class, which is compiled and run.
 */
final class ReadmeTest {
    private static final Pattern BLOCK = Pattern.compile("(?s)```java\n(.*?)```");
    private static final Pattern LINE = Pattern.compile("(?:int (\\w+) = )?(.*?);\\s*(?://\\s*([^:]*).*)?");

    private final Check check = new Check();

    private static List<String> readLines() throws IOException {
        Matcher block = BLOCK.matcher(Files.readString(Path.of("README.md")));
        List<String> lines = new ArrayList<>();
        while (block.find()) {
            block.group(1).lines().filter(line -> !line.isBlank() && !line.startsWith("//")).forEach(lines::add);
        }
        return lines;
    }

    /** What a line becomes in the class: it notes the call, the answer and what is due. */
    private static String toCode(String line) {
        Matcher parts = LINE.matcher(line);
        if (!parts.matches()) {
            throw new IllegalStateException("README.md has a line that is no call: " + line);
        }
        String name = parts.group(1);
        String call = parts.group(2);
        String due = parts.group(3);
        if (due == null) {
            return line;
        }
        String told = "\"" + call.replace("\"", "\\\"") + "\"";
        if (due.startsWith("throws ")) {
            return "try { note(" + told + ", " + call + ", \"" + due + "\"); } catch (RuntimeException e) { note("
                + told + ", \"throws \" + e.getClass().getSimpleName(), \"" + due + "\"); }";
        }
        String first = name == null ? "" : "int " + name + " = " + call + "; ";
        return first + "note(" + told + ", " + (name == null ? call : name) + ", " + due + ");";
    }

    private static String toClass(List<String> lines) {
        StringBuilder code = new StringBuilder();
        code.append("public class ReadmeLines {\n")
            .append("static java.util.List<Object[]> notes = new java.util.ArrayList<>();\n")
            .append("static void note(Object... parts) { notes.add(parts); }\n")
            .append("public static java.util.List<Object[]> run() {\n");
        for (String line : lines) {
            code.append(toCode(line)).append('\n');
        }
        return code.append("return notes;\n}\n}\n").toString();
    }

    @SuppressWarnings("unchecked")
    private static List<Object[]> run(String code, Path folder) throws Exception {
        Path file = folder.resolve("ReadmeLines.java");
        Files.writeString(file, code);
        Process compiler = new ProcessBuilder("javac", "-cp", System.getProperty("java.class.path"),
            "-d", folder.toString(), file.toString()).inheritIO().start();
        if (compiler.waitFor() != 0) {
            throw new IllegalStateException("the lines of README.md do not compile");
        }
        try (URLClassLoader loader = new URLClassLoader(new URL[] {folder.toUri().toURL()})) {
            Method run = loader.loadClass("ReadmeLines").getMethod("run");
            return (List<Object[]>) run.invoke(null);
        }
    }

    private static void delete(Path folder) throws IOException {
        for (String name : List.of("ReadmeLines.java", "ReadmeLines.class")) {
            Files.deleteIfExists(folder.resolve(name));
        }
        Files.delete(folder);
    }

    private void compare() throws Exception {
        Path folder = Files.createTempDirectory("readme");
        try {
            List<Object[]> notes = run(toClass(readLines()), folder);
            check.is("README.md has lines with an answer", notes.size() > 40, true);
            for (Object[] note : notes) {
                check.is("README.md: " + note[0], note[1], note[2]);
            }
        } finally {
            delete(folder);
        }
    }

    public static void main(String[] args) throws Exception {
        ReadmeTest test = new ReadmeTest();
        test.compare();
        test.check.end();
    }
}
