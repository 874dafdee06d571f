import java.io.ByteArrayOutputStream;
import java.io.IOException;
import java.io.PrintStream;
import java.lang.reflect.Method;
import java.lang.reflect.Modifier;
import java.net.URL;
import java.net.URLClassLoader;
import java.nio.charset.StandardCharsets;
import java.nio.file.Files;
import java.nio.file.Path;
import java.util.ArrayList;
import java.util.List;
import java.util.regex.Matcher;
import java.util.regex.Pattern;
import java.util.stream.Stream;
import javax.tools.JavaCompiler;
import javax.tools.ToolProvider;

/** What README.md says of answers: its Java is compiled and run, as it stands there. */
public final class ReadmeTest {
    private static final Pattern BLOCK = Pattern.compile("```(java|text)\n(.*?)```", Pattern.DOTALL);
    private static final String ANSWER = ";\\s*// (-?\\d+|[a-z]+|[A-Z]+)\\b.*";
    private static final Pattern CALLED = Pattern.compile("(x\\.\\w+\\(.*\\))" + ANSWER);
    private static final Pattern PRINTED = Pattern.compile("System\\.out\\.println\\((.*)\\)" + ANSWER);
    private static final Pattern TOLD_IN_TABLE = Pattern.compile("(?m)^\\| `?([A-Z]+)`? \\| (-?\\d+) \\|");
    private static final Pattern CALL_IN_TABLE = Pattern.compile("(?m)^\\| `(\\w+)\\(([^)]*)\\)` \\|");
    private static final String[] FINDINGS = {"", "NOTHING", "BEYOND", "UNLIKE", "NOUGHT", "SIZE"};

    public static void main(String[] args) throws Exception {
        String page = Files.readString(Path.of("README.md"));
        tables(page);
        Path out = Files.createTempDirectory("readme");
        try {
            blocks(page, out);
        } finally {
            try (Stream<Path> all = Files.walk(out)) {
                all.sorted((a, b) -> b.compareTo(a)).forEach(one -> one.toFile().delete());
            }
        }
        Due.end("ReadmeTest");
    }

    /** Called by the page's lines, once they are compiled. */
    public static void same(String call, Object got, String want) throws ReflectiveOperationException {
        String due = want.matches("[A-Z]+") ? "" + BearWitness.class.getField(want).getInt(null) : want;
        Due.is("README: " + call + ", " + got + ", " + due + " is said", got.toString().equals(due) ? 1 : 0, 1);
    }

    private static void blocks(String page, Path out) throws IOException, ReflectiveOperationException {
        List<String> lines = new ArrayList<>();
        String printed = null;
        Matcher block = BLOCK.matcher(page);
        while (block.find()) {
            String text = block.group(2);
            if (block.group(1).equals("text")) {
                Due.is("README: what First prints", text.equals(printed) ? 1 : 0, 1);
            } else if (text.contains("class First")) {
                printed = run("First", text, out);
            } else {
                lines.addAll(List.of(text.split("\n")));
            }
        }
        Due.is("README: First was run", printed != null ? 1 : 0, 1);
        run("Lines", program(lines), out);
    }

    /** The lines in their order, each with what it answers compared. */
    private static String program(List<String> lines) throws ReflectiveOperationException {
        StringBuilder s = new StringBuilder("class Lines { public static void main(String[] args) throws Exception {\n");
        StringBuilder tried = new StringBuilder();
        for (String line : lines) {
            Matcher m = PRINTED.matcher(line.trim());
            if (!m.matches()) m = CALLED.matcher(line.trim());
            if (!m.matches()) {
                s.append(line).append('\n');
                continue;
            }
            tried.append(m.group(1)).append(' ');
            s.append("ReadmeTest.same(\"").append(m.group(1).replace("\"", "\\\"")).append("\", ").append(m.group(1));
            s.append(", \"").append(m.group(2)).append("\");\n");
        }
        for (Method call : BearWitness.class.getDeclaredMethods()) {
            if (!Modifier.isPublic(call.getModifiers())) continue;
            Due.is("README: " + call.getName() + "() is tried", tried.indexOf("x." + call.getName() + "(") >= 0 ? 1 : 0, 1);
        }
        return s.append("} }\n").toString();
    }

    /** What a class prints that is compiled and run in a directory. */
    private static String run(String name, String text, Path out) throws IOException, ReflectiveOperationException {
        Path file = out.resolve(name + ".java");
        Files.writeString(file, text);
        JavaCompiler compiler = ToolProvider.getSystemJavaCompiler();
        String path = System.getProperty("java.class.path");
        int failed = compiler.run(null, null, null, "-cp", path, "-proc:none", "-d", out.toString(), file.toString());
        Due.is("README: " + name + " is compiled", failed, 0);
        if (failed != 0) return null;
        ByteArrayOutputStream bytes = new ByteArrayOutputStream();
        PrintStream screen = System.out;
        boolean quiet = name.equals("First");
        try (URLClassLoader loader = new URLClassLoader(new URL[] {out.toUri().toURL()})) {
            Method main = loader.loadClass(name).getMethod("main", String[].class);
            main.setAccessible(true);
            if (quiet) System.setOut(new PrintStream(bytes, true, StandardCharsets.UTF_8));
            main.invoke(null, (Object) new String[0]);
        } finally {
            System.setOut(screen);
        }
        return bytes.toString(StandardCharsets.UTF_8).replace(System.lineSeparator(), "\n");
    }

    private static void tables(String page) throws ReflectiveOperationException {
        StringBuilder told = new StringBuilder(" ");
        Matcher m = TOLD_IN_TABLE.matcher(page);
        while (m.find()) {
            int number = Integer.parseInt(m.group(2));
            told.append(m.group(1)).append(' ');
            int due = number;
            if (number > 0 && number < FINDINGS.length) Due.is("README: FINDING " + m.group(1), m.group(1).equals(FINDINGS[number]) ? 1 : 0, 1);
            else due = BearWitness.class.getField(m.group(1)).getInt(null);
            Due.is("README: " + m.group(1), number, due);
        }
        String names = "BAD FULL FINDING STATE SPENT NONE" + String.join(" ", FINDINGS);
        for (String name : names.split(" ")) Due.is("README: " + name + " stands in a table", told.indexOf(" " + name + " ") >= 0 ? 1 : 0, 1);
        calls(page);
    }

    /** The tables tell of each public call, once, with as many arguments as it takes. */
    private static void calls(String page) {
        List<String> told = new ArrayList<>();
        Matcher m = CALL_IN_TABLE.matcher(page);
        while (m.find()) {
            int taken = m.group(2).isEmpty() ? 0 : m.group(2).split(",").length;
            told.add(m.group(1) + " of " + taken);
        }
        int calls = 0;
        for (Method call : BearWitness.class.getDeclaredMethods()) {
            if (!Modifier.isPublic(call.getModifiers())) continue;
            calls++;
            String name = call.getName() + " of " + call.getParameterCount();
            Due.is("README: " + name + " stands in a table", told.contains(name) ? 1 : 0, 1);
        }
        Due.is("README: calls in its tables", told.size(), calls);
    }
}
