import java.io.IOException;
import java.lang.reflect.Method;
import java.lang.reflect.Modifier;
import java.net.URL;
import java.net.URLClassLoader;
import java.nio.file.Files;
import java.nio.file.Path;
import java.util.ArrayList;
import java.util.List;
import java.util.TreeSet;
import java.util.regex.Matcher;
import java.util.regex.Pattern;
import java.util.stream.Stream;
import javax.tools.JavaCompiler;
import javax.tools.ToolProvider;

/** What README.md says is so: its example compiles, answers what it tells, shows each call; its tests are those there are. */
public final class ReadmeTest {
    private static final Due due = new Due();
    private static final Pattern ANSWERED = Pattern.compile("(\\S.*);\\s*// (-?\\d+)\\b.*");
    private static final String MADE = "BeastFloor x = new BeastFloor();";

    /** The calls of the example, and what it tells of each. */
    private static final List<String> calls = new ArrayList<>();
    private static final List<Long> answers = new ArrayList<>();

    public static void main(String[] args) throws Exception {
        String readme = Files.readString(Path.of("README.md"));
        List<String> blocks = javaBlocks(readme);
        due.holds("README.md has an example", blocks.size() > 1);
        String program = program(blocks);
        showsEachCall();
        compileAndRun(program);
        fedBytes(readme);
        tests(readme);
        due.end();
    }

    private static List<String> javaBlocks(String readme) {
        List<String> blocks = new ArrayList<>();
        Matcher m = Pattern.compile("```java\n(.*?)```", Pattern.DOTALL).matcher(readme);
        while (m.find()) {
            blocks.add(m.group(1));
        }
        return blocks;
    }

    /** A block that begins with a method stands beside run(); the others are run(), each line a call with its answer. */
    private static String program(List<String> blocks) {
        StringBuilder beside = new StringBuilder();
        StringBuilder run = new StringBuilder();
        for (String block : blocks) {
            if (block.startsWith("static ")) {
                beside.append(block);
                continue;
            }
            for (String line : block.split("\n")) {
                Matcher m = ANSWERED.matcher(line);
                boolean answered = m.matches();
                due.holds("a call with its answer: " + line, answered || line.equals(MADE));
                if (answered) {
                    run.append("got[").append(calls.size()).append("] = ").append(m.group(1)).append(";\n");
                    calls.add(m.group(1));
                    answers.add(Long.parseLong(m.group(2)));
                } else {
                    run.append(line).append('\n');
                }
            }
        }
        return "public final class ReadmeExample {\n" + beside + "public static long[] run() {\nlong[] got = new long["
            + calls.size() + "];\n" + run + "return got;\n}\n}\n";
    }

    private static void showsEachCall() {
        for (Method m : BeastFloor.class.getDeclaredMethods()) {
            if (Modifier.isPublic(m.getModifiers()) && !m.getName().equals("text")) {
                String call = "x." + m.getName() + "(";
                due.holds("the example shows " + m.getName(), calls.stream().anyMatch(c -> c.startsWith(call)));
            }
        }
        due.holds("the example tells a text", calls.stream().anyMatch(c -> c.startsWith("tell(x, ")));
    }

    private static void compileAndRun(String program) throws Exception {
        JavaCompiler compiler = ToolProvider.getSystemJavaCompiler();
        due.holds("there is a compiler", compiler != null);
        if (compiler == null) {
            return;
        }
        Path folder = Files.createTempDirectory("readme");
        try {
            Path source = Files.writeString(folder.resolve("ReadmeExample.java"), program);
            int code = compiler.run(null, null, null, "-cp", System.getProperty("java.class.path"),
                "-d", folder.toString(), source.toString());
            due.is("the example compiles", code, 0);
            if (code == 0) {
                compare(folder);
            }
        } finally {
            remove(folder);
        }
    }

    private static void compare(Path folder) throws Exception {
        try (URLClassLoader loader = new URLClassLoader(new URL[] {folder.toUri().toURL()})) {
            long[] got = (long[]) loader.loadClass("ReadmeExample").getMethod("run").invoke(null);
            for (int i = 0; i < got.length; i++) {
                due.is("README.md: " + calls.get(i), got[i], answers.get(i));
            }
        }
    }

    private static void remove(Path folder) throws IOException {
        try (Stream<Path> files = Files.list(folder)) {
            for (Path file : files.toList()) {
                Files.delete(file);
            }
        }
        Files.delete(folder);
    }

    private static void fedBytes(String readme) {
        Matcher m = Pattern.compile("x\\.feed\\(0x([0-9a-f]{16})L\\);\\s*// -?\\d+: \"([^\"]{8})\"").matcher(readme);
        boolean found = m.find();
        due.holds("the example feeds eight bytes", found);
        if (found) {
            StringBuilder bytes = new StringBuilder();
            for (char sign : m.group(2).toCharArray()) {
                bytes.append(String.format("%02x", (int) sign));
            }
            due.holds("the bytes of \"" + m.group(2) + "\"", bytes.toString().equals(m.group(1)));
        }
    }

    /** The first cells of the tables that name tests, against the files. */
    private static void tests(String readme) throws IOException {
        TreeSet<String> said = new TreeSet<>();
        Matcher m = Pattern.compile("(?m)^\\| (\\w+Test) \\|").matcher(readme);
        while (m.find()) {
            due.holds(m.group(1) + " stands in a table once", said.add(m.group(1)));
        }
        TreeSet<String> there = new TreeSet<>();
        try (Stream<Path> files = Files.list(Path.of("src/test/java"))) {
            for (Path file : files.toList()) {
                String name = file.getFileName().toString();
                if (name.endsWith("Test.java")) {
                    there.add(name.substring(0, name.length() - ".java".length()));
                }
            }
        }
        due.holds("README.md names the tests " + there + ", it names " + said, said.equals(there));
    }
}
