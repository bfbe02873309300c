import java.io.IOException;
import java.lang.reflect.Method;
import java.lang.reflect.Modifier;
import java.net.URL;
import java.net.URLClassLoader;
import java.nio.file.Files;
import java.nio.file.Path;
import java.util.ArrayList;
import java.util.List;
import java.util.Set;
import java.util.TreeSet;
import java.util.regex.Matcher;
import java.util.regex.Pattern;
import javax.tools.JavaCompiler;
import javax.tools.ToolProvider;

/** README.md is true: its example is run, and its table tells each call of the face with as many arguments as it takes. */
public final class ReadmeTest {
    private static final Pattern ASKED = Pattern.compile("(x\\..*\\));\\s*// (-?\\d+|LOST):.*");
    private static final Pattern ROW = Pattern.compile("\\| `(\\w+)\\(([^)]*)\\)` \\| .+ \\|");

    public static void main(String[] args) throws Exception {
        List<String> page = Files.readAllLines(Path.of("README.md"));
        example(page);
        table(page);
        Due.end();
    }

    private static void example(List<String> page) throws Exception {
        StringBuilder program = new StringBuilder("public final class Example {\n    public static void show(java.util.List<Long> got) {\n");
        List<String> calls = new ArrayList<>();
        List<Long> due = new ArrayList<>();
        for (String line : block(page)) {
            Matcher asked = ASKED.matcher(line);
            if (asked.matches()) {
                calls.add(asked.group(1));
                due.add(asked.group(2).equals("LOST") ? StarLess.LOST : Long.parseLong(asked.group(2)));
                program.append("got.add((long) ").append(asked.group(1)).append(");\n");
            } else {
                program.append(line).append('\n');
            }
        }
        List<Long> got = run(program.append("    }\n}\n").toString());
        Due.is("answers of the example", got.size(), due.size());
        for (int at = 0; at < got.size() && at < due.size(); at++) Due.is("README.md: " + calls.get(at), got.get(at), due.get(at));
        Due.is("the example asks", calls.isEmpty() ? 0 : 1, 1);
    }

    private static List<String> block(List<String> page) {
        List<String> lines = new ArrayList<>();
        int start = page.indexOf("```java");
        for (int at = start + 1; start >= 0 && at < page.size() && !page.get(at).equals("```"); at++) lines.add(page.get(at));
        return lines;
    }

    private static List<Long> run(String program) throws Exception {
        List<Long> got = new ArrayList<>();
        Path room = Files.createTempDirectory("readme");
        try {
            Path file = Files.writeString(room.resolve("Example.java"), program);
            JavaCompiler compiler = ToolProvider.getSystemJavaCompiler();
            int failed = compiler.run(null, null, null, "-cp", System.getProperty("java.class.path"), "-d", room.toString(), file.toString());
            Due.is("javac of the example", failed, 0);
            if (failed != 0) return got;
            try (URLClassLoader loader = new URLClassLoader(new URL[] {room.toUri().toURL()}, ReadmeTest.class.getClassLoader())) {
                loader.loadClass("Example").getMethod("show", List.class).invoke(null, got);
            }
        } finally {
            clear(room);
        }
        return got;
    }

    private static void clear(Path room) throws IOException {
        try (var files = Files.newDirectoryStream(room)) {
            for (Path file : files) Files.delete(file);
        }
        Files.delete(room);
    }

    private static void table(List<String> page) {
        Set<String> told = new TreeSet<>();
        for (String line : page) {
            Matcher row = ROW.matcher(line);
            if (row.matches()) told.add(row.group(1) + " " + (row.group(2).isEmpty() ? 0 : row.group(2).split(",").length));
        }
        Set<String> face = new TreeSet<>();
        for (Method method : StarLess.class.getDeclaredMethods()) {
            if (Modifier.isPublic(method.getModifiers())) face.add(method.getName() + " " + method.getParameterCount());
        }
        Due.is("the table's calls " + told + " are the face's " + face, told.equals(face) ? 1 : 0, 1);
    }
}
