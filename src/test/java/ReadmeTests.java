import java.io.IOException;
import java.lang.reflect.Field;
import java.lang.reflect.Method;
import java.lang.reflect.Modifier;
import java.net.URL;
import java.net.URLClassLoader;
import java.nio.charset.StandardCharsets;
import java.nio.file.Files;
import java.nio.file.Path;
import java.util.ArrayList;
import java.util.List;
import java.util.regex.Matcher;
import java.util.regex.Pattern;
import java.util.stream.Stream;

/** What README.md shows must be so: its Java is compiled and run, its commands are run, its lists are complete. */
public final class ReadmeTests {
    private static final Path README = Path.of("README.md");
    private static final String DOCUMENT = "../shared/DOC.md";
    private static final Pattern ANSWERED = Pattern.compile("^(feeder\\.\\w+\\(.*\\)); +// (-?\\d+)(: .*)?$");

    /** Counted by the program that is made of README.md too. */
    public static int checks = 0;
    public static int wrong = 0;

    public static void main(String[] args) throws Exception {
        String readme = Files.readString(README);
        List<String> examples = blocks(readme, "java");
        due("examples in README.md", examples.size() >= 5 ? 5 : examples.size(), 5L);
        run(program(examples));
        commands(blocks(readme, "sh"));
        methods(readme);
        constants(readme);
        files(readme);
        System.out.println("ReadmeTests: " + checks + " checks, " + wrong + " wrong");
        if (wrong != 0) {
            System.exit(1);
        }
    }

    public static void due(String what, long got, long want) {
        checks++;
        if (got != want) {
            wrong++;
            System.out.println(what + " is " + got + ", due is " + want);
        }
    }

    private static void isSo(String what, boolean so) {
        due(what, so ? 1 : 0, 1);
    }

    private static List<String> blocks(String readme, String kind) {
        List<String> blocks = new ArrayList<>();
        Matcher m = Pattern.compile("(?s)```" + kind + "\n(.*?)```").matcher(readme);
        while (m.find()) {
            blocks.add(m.group(1));
        }
        return blocks;
    }

    // ---- the examples

    /** A program of all examples, in which each call that stands with its answer is compared with it. */
    private static String program(List<String> examples) {
        StringBuilder s = new StringBuilder("public final class ReadmeExamples {\n");
        for (int i = 0; i < examples.size(); i++) {
            s.append("public static void example").append(i).append("() {\n");
            for (String line : examples.get(i).split("\n")) {
                s.append(checked(line)).append('\n');
            }
            s.append("}\n");
        }
        return s.append("}\n").toString();
    }

    private static String checked(String line) {
        Matcher m = ANSWERED.matcher(line);
        if (m.matches()) {
            String what = "\"README.md: " + m.group(1) + "\"";
            return "ReadmeTests.due(" + what + ", " + m.group(1) + ", " + m.group(2) + ");";
        }
        isSo("README.md gives the answer of: " + line, !line.startsWith("feeder."));
        return line;
    }

    private static void run(String program) throws Exception {
        Path folder = Files.createTempDirectory("readme");
        try {
            Path file = folder.resolve("ReadmeExamples.java");
            Files.writeString(file, program);
            String classes = System.getProperty("java.class.path");
            Process process = new ProcessBuilder("javac", "-cp", classes, "-d", folder.toString(), file.toString())
                .inheritIO().start();
            int exit = process.waitFor();
            due("javac's exit code for the examples of README.md", exit, 0);
            if (exit == 0) {
                runExamples(folder);
            }
        } finally {
            delete(folder);
        }
    }

    private static void runExamples(Path folder) throws Exception {
        URL[] places = {folder.toUri().toURL()};
        try (URLClassLoader loader = new URLClassLoader(places, ReadmeTests.class.getClassLoader())) {
            for (Method m : loader.loadClass("ReadmeExamples").getDeclaredMethods()) {
                int before = checks;
                m.invoke(null);
                isSo("README.md's " + m.getName() + " has answered calls", checks > before);
            }
        }
    }

    private static void delete(Path folder) throws IOException {
        try (Stream<Path> files = Files.list(folder)) {
            for (Path file : files.toList()) {
                Files.delete(file);
            }
        }
        Files.delete(folder);
    }

    // ---- the commands

    /** .ci/run itself is not run here, for it runs this test. */
    private static void commands(List<String> blocks) throws Exception {
        isSo("README.md shows commands", blocks.size() >= 2);
        for (String block : blocks) {
            if (block.equals(".ci/run\n")) {
                isSo(".ci/run can be run", Files.isExecutable(Path.of(".ci/run")));
            } else {
                Process process = new ProcessBuilder("bash", "-e", "-c", block).redirectErrorStream(true).start();
                String output = new String(process.getInputStream().readAllBytes(), StandardCharsets.UTF_8);
                due("the exit code of README.md's commands, which told: " + output, process.waitFor(), 0);
                isSo("README.md's commands run a test: " + output, output.contains(" checks, 0 wrong"));
            }
        }
    }

    // ---- the lists

    private static void methods(String readme) throws IOException {
        String document = Files.readString(Path.of(DOCUMENT));
        int listed = 0;
        Matcher m = Pattern.compile("(?m)^`((int|long) \\w+\\([^`]*\\))`$").matcher(document);
        while (m.find()) {
            listed++;
            int at = readme.indexOf("\n| `" + m.group(1) + "` | ");
            isSo("README.md lists " + m.group(1), at >= 0);
            if (at >= 0) {
                boolean undoable = section(document, m.end()).contains("Undoable");
                String row = readme.substring(at, readme.indexOf('\n', at + 1));
                isSo("README.md tells whether " + m.group(1) + " is undoable", row.contains("; undoable") == undoable);
            }
        }
        due("methods in the document", listed, 27);
    }

    private static String section(String document, int from) {
        int to = document.indexOf("\n## ", from);
        return to < 0 ? document.substring(from) : document.substring(from, to);
    }

    private static void constants(String readme) throws IllegalAccessException {
        for (Field f : FeederControl.class.getFields()) {
            if (Modifier.isStatic(f.getModifiers())) {
                String row = "\n| `" + f.getName() + "` | " + f.getInt(null) + " | ";
                isSo("README.md lists " + f.getName(), readme.contains(row));
            }
        }
    }

    private static void files(String readme) throws IOException {
        Matcher m = Pattern.compile("`((\\.\\./shared|src|\\.ci)(/[\\w.]+)*)`").matcher(readme);
        while (m.find()) {
            isSo("README.md names a file that is there: " + m.group(1), Files.exists(Path.of(m.group(1))));
        }
        try (Stream<Path> tests = Files.list(Path.of("src/test/java"))) {
            for (Path test : tests.toList()) {
                isSo("README.md tells of " + test, readme.contains("`src/test/java/" + test.getFileName() + "`"));
            }
        }
    }
}
