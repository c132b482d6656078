import java.io.IOException;
import java.lang.reflect.Method;
import java.net.URL;
import java.net.URLClassLoader;
import java.nio.file.Files;
import java.nio.file.Path;
import java.util.ArrayList;
import java.util.Comparator;
import java.util.List;
import java.util.regex.Matcher;
import java.util.regex.Pattern;
import java.util.stream.Stream;
import javax.tools.ToolProvider;

/** That README.md shows what is so: its calls answer as it says, its commands run as they stand there, it names every test. */
public final class ReadmeTest {
    private static final Pattern BLOCK = Pattern.compile("(?ms)^```(java|sh)\\n(.*?)^```$");
    /** A call with its answer, and words behind a colon that tell of it. */
    private static final Pattern ANSWERED = Pattern.compile("(\\S.*);\\s+// (\\S+?)(:.*)?");
    private static final Pattern COMMAND = Pattern.compile("(.*?)(?:\\s+# (.*))?");
    /** It runs this test, so that running it here would not end. */
    private static final String ALL_TESTS = ".ci/run";

    public static void main(String[] args) throws Exception {
        String readme = Files.readString(Path.of("README.md"));
        Path room = Files.createTempDirectory("readme");
        try {
            calls(blocks(readme, "java"), room);
            commands(blocks(readme, "sh"), room);
        } finally {
            remove(room);
        }
        names(readme);
        Due.end("ReadmeTest");
    }

    private static List<String> blocks(String readme, String language) {
        List<String> blocks = new ArrayList<>();
        Matcher m = BLOCK.matcher(readme);
        while (m.find()) {
            if (m.group(1).equals(language)) {
                blocks.add(m.group(2));
            }
        }
        Due.is("there are blocks of " + language, blocks.isEmpty() ? 0 : 1, 1);
        return blocks;
    }

    /** Each block twice: as it stands, so that it can be taken over, and with every answer compared. */
    private static void calls(List<String> blocks, Path room) throws Exception {
        StringBuilder code = new StringBuilder("public final class Shown {\n");
        for (int k = 0; k < blocks.size(); k++) {
            code.append("static void plain").append(k).append("() {\n").append(blocks.get(k)).append("}\n");
            code.append("public static void compared").append(k).append("() {\n").append(compared(blocks.get(k))).append("}\n");
        }
        Path source = room.resolve("Shown.java");
        Files.writeString(source, code.append("}\n"));
        int exit = ToolProvider.getSystemJavaCompiler().run(null, null, null,
            "-cp", System.getProperty("java.class.path"), "-d", room.toString(), source.toString());
        Due.is("compiling the calls of README.md", exit, 0);
        if (exit != 0) {
            return;
        }
        try (URLClassLoader loader = new URLClassLoader(new URL[] {room.toUri().toURL()}, ReadmeTest.class.getClassLoader())) {
            for (int k = 0; k < blocks.size(); k++) {
                loader.loadClass("Shown").getMethod("compared" + k).invoke(null);
            }
        }
    }

    private static String compared(String block) {
        StringBuilder code = new StringBuilder();
        for (String row : block.split("\n")) {
            Matcher m = ANSWERED.matcher(row);
            if (m.matches()) {
                code.append("ReadmeTest.answers(").append(quoted(m.group(1))).append(", String.valueOf(").append(m.group(1))
                    .append("), ").append(quoted(m.group(2))).append(");\n");
            } else {
                Due.is("a call without its answer: " + row, row.startsWith("house.") || row.contains("//") ? 1 : 0, 0);
                code.append(row).append('\n');
            }
        }
        return code.toString();
    }

    private static String quoted(String text) {
        return '"' + text.replace("\\", "\\\\").replace("\"", "\\\"") + '"';
    }

    public static void answers(String call, String got, String shown) {
        Due.is("README.md: " + call + " answered " + got + ", shown is " + shown, got.equals(shown) ? 1 : 0, 1);
    }

    /** In a copy, as of a new checkout; a comment behind a command is what it prints. */
    private static void commands(List<String> blocks, Path room) throws Exception {
        Path project = room.resolve("project");
        copy(Path.of("src"), project.resolve("src"));
        Files.copy(Path.of("README.md"), project.resolve("README.md"));
        boolean showsAll = false;
        for (String block : blocks) {
            for (String row : block.split("\n")) {
                Matcher m = COMMAND.matcher(row);
                if (m.matches() && m.group(1).equals(ALL_TESTS)) {
                    showsAll = true;
                } else if (m.matches()) {
                    run(m.group(1), m.group(2), project);
                }
            }
        }
        Due.is("README.md shows " + ALL_TESTS, showsAll ? 1 : 0, 1);
        Due.is(ALL_TESTS + " can be run", Files.isExecutable(Path.of(ALL_TESTS)) ? 1 : 0, 1);
    }

    private static void run(String command, String printed, Path project) throws Exception {
        Process process = new ProcessBuilder("sh", "-c", command).directory(project.toFile()).redirectErrorStream(true).start();
        process.getOutputStream().close();
        String output = new String(process.getInputStream().readAllBytes());
        Due.is("README.md: " + command + " printed " + output + " and its exit code", process.waitFor(), 0);
        if (printed != null) {
            Due.is("README.md: " + command + " printed " + output, output.trim().equals(printed) ? 1 : 0, 1);
        }
    }

    private static void copy(Path from, Path to) throws IOException {
        try (Stream<Path> files = Files.walk(from)) {
            for (Path file : (Iterable<Path>) files::iterator) {
                Path copy = to.resolve(from.relativize(file).toString());
                if (Files.isDirectory(file)) {
                    Files.createDirectories(copy);
                } else {
                    Files.copy(file, copy);
                }
            }
        }
    }

    private static void remove(Path room) throws IOException {
        try (Stream<Path> files = Files.walk(room)) {
            for (Path file : (Iterable<Path>) files.sorted(Comparator.reverseOrder())::iterator) {
                Files.delete(file);
            }
        }
    }

    /** Every call of the face is shown, every test and helper is named. */
    private static void names(String readme) throws IOException {
        String shown = String.join("\n", blocks(readme, "java"));
        for (Method m : LayerHouse.class.getMethods()) {
            if (m.getDeclaringClass() == LayerHouse.class) {
                Due.is("README.md shows " + m.getName(), shown.contains("house." + m.getName() + "(") ? 1 : 0, 1);
            }
        }
        try (Stream<Path> files = Files.list(Path.of("src/test/java"))) {
            for (Path file : (Iterable<Path>) files::iterator) {
                String name = file.getFileName().toString().replace(".java", "");
                Due.is("README.md names " + name, readme.contains("`" + name + "`") ? 1 : 0, 1);
            }
        }
        for (Class<?> inside : LayerHouse.class.getDeclaredClasses()) {
            Due.is("README.md names " + inside.getSimpleName(), readme.contains("`" + inside.getSimpleName() + "`") ? 1 : 0, 1);
        }
    }
}
