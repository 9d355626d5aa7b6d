import java.io.IOException;
import java.net.URL;
import java.net.URLClassLoader;
import java.nio.file.Files;
import java.nio.file.Path;
import java.util.ArrayList;
import java.util.List;
import java.util.regex.Matcher;
import java.util.regex.Pattern;
import java.util.stream.Stream;
import javax.tools.ToolProvider;

/**
 * Each example in README.md answers as it says. Its blocks of Java are made one program, in which a line's call is held
 * against the number or the text that its comment begins with; then that program is compiled and run.
 */
public final class ReadmeTest {
    private static final Pattern BLOCK = Pattern.compile("(?s)```java\n(.*?)```");
    private static final Pattern ANSWERED = Pattern.compile("\\s*(\\w+.*);\\s*// (-?\\d+|\"[^\"]*\")(:.*)?");
    private static final Pattern PLAIN = Pattern.compile("\\s*TheoryCourt \\w+ = new TheoryCourt\\(\\);|\\s*");
    private static int answers = 0;

    public static void main(String[] args) throws Exception {
        Bench b = new Bench("ReadmeTest");
        String program = program(b, Files.readString(Path.of("README.md")));
        Path room = Files.createTempDirectory("readme");
        try {
            carryOut(b, program, room);
        } finally {
            remove(room);
        }
        b.due("answers that README.md tells: there are many", answers > 80 ? 1 : 0, 1);
        nameTests(b, Files.readString(Path.of("README.md")));
        b.finish();
    }

    /** Blocks that begin with static are methods; all others are the program itself, one after the other. */
    private static String program(Bench b, String readme) {
        StringBuilder methods = new StringBuilder();
        StringBuilder lines = new StringBuilder();
        Matcher block = BLOCK.matcher(readme);
        while (block.find()) {
            String code = block.group(1);
            if (code.startsWith("static ")) {
                methods.append(code);
            } else {
                for (String line : code.split("\n")) {
                    lines.append(held(b, line)).append('\n');
                }
            }
        }
        return "import java.util.*;\npublic final class ReadmeProgram {\n" + methods
                + "public static List<Object[]> play() {\nList<Object[]> all = new ArrayList<>();\n"
                + lines + "return all;\n}\n}\n";
    }

    private static String held(Bench b, String line) {
        Matcher answered = ANSWERED.matcher(line);
        if (!answered.matches()) {
            b.due("a line of README.md without an answer: " + line, PLAIN.matcher(line).matches() ? 1 : 0, 1);
            return line;
        }
        answers++;
        String call = answered.group(1);
        String want = answered.group(2).replace("\"", "\\\"");
        return "all.add(new Object[] {\"" + call.replace("\"", "\\\"") + "\", " + call + ", \"" + want + "\"});";
    }

    private static void carryOut(Bench b, String program, Path room) throws Exception {
        Path source = room.resolve("ReadmeProgram.java");
        Files.writeString(source, program);
        String path = System.getProperty("java.class.path");
        int failed = ToolProvider.getSystemJavaCompiler().run(null, null, null, "-nowarn", "-cp", path, "-d",
                room.toString(), source.toString());
        b.due("README.md's program compiles", failed, 0);
        if (failed == 0) {
            URL[] from = {room.toUri().toURL()};
            try (URLClassLoader loader = new URLClassLoader(from, ReadmeTest.class.getClassLoader())) {
                hold(b, (List<?>) loader.loadClass("ReadmeProgram").getMethod("play").invoke(null));
            }
        }
    }

    /** Each answer comes with its call, and with what README.md says of it. */
    private static void hold(Bench b, List<?> all) {
        b.due("answers that were looked at", all.size(), answers);
        for (Object one : all) {
            Object[] row = (Object[]) one;
            String got = row[1] instanceof String ? "\"" + row[1] + "\"" : String.valueOf(row[1]);
            b.due("README.md: " + row[0], got, (String) row[2]);
        }
    }

    private static void nameTests(Bench b, String readme) throws IOException {
        try (Stream<Path> files = Files.list(Path.of("src/test/java"))) {
            for (Path file : files.toList()) {
                String name = file.getFileName().toString().replace(".java", "");
                b.due("README.md names " + name, readme.contains(name) ? 1 : 0, 1);
            }
        }
    }

    private static void remove(Path room) throws IOException {
        List<Path> all = new ArrayList<>();
        try (Stream<Path> files = Files.list(room)) {
            files.forEach(all::add);
        }
        all.add(room);
        for (Path path : all) {
            Files.delete(path);
        }
    }
}
