import java.io.IOException;
import java.lang.reflect.Method;
import java.lang.reflect.Modifier;
import java.net.URL;
import java.net.URLClassLoader;
import java.nio.file.Files;
import java.nio.file.Path;
import java.util.ArrayList;
import java.util.Comparator;
import java.util.List;
import java.util.Set;
import java.util.TreeSet;
import java.util.concurrent.TimeUnit;
import java.util.regex.Matcher;
import java.util.regex.Pattern;
import java.util.stream.Stream;

/** README.md: its examples compile and answer as it says, its commands run, its lists are whole. */
public final class ReadmeTest {
    private static final Check CHECK = new Check();
    private static final Path README = Path.of("README.md");
    private static final Path TESTS = Path.of("src/test/java");
    private static final Pattern CALL = Pattern.compile("x\\.(\\w+)\\((.*)\\); +// (-?\\d+|true|false)(: .*)?");
    private static final Pattern MADE = Pattern.compile("DrumLayers x = new DrumLayers\\(.*\\);( +// .*)?");

    /** The text of each block of this kind. */
    private static List<String> blocks(String readme, String kind) {
        List<String> found = new ArrayList<>();
        Matcher block = Pattern.compile("(?ms)^```" + kind + "\n(.*?)^```$").matcher(readme);
        while (block.find()) {
            found.add(block.group(1));
        }
        return found;
    }

    /** A class whose method tells, a line each, the calls that do not answer as the block says. */
    private static String asClass(String name, String block) {
        StringBuilder text = new StringBuilder("public final class " + name + " {\n"
                + "    public static String wrong() {\n        StringBuilder wrong = new StringBuilder();\n");
        for (String line : block.split("\n")) {
            Matcher call = CALL.matcher(line);
            if (call.matches()) {
                String written = "x." + call.group(1) + "(" + call.group(2) + ")";
                text.append("        { String got = String.valueOf(").append(written).append(");\n")
                        .append("        if (!got.equals(\"").append(call.group(3)).append("\")) wrong.append(\"")
                        .append(written).append(" answered \").append(got).append('/'); }\n");
            } else {
                CHECK.due("a line that makes the object: " + line, MADE.matcher(line).matches(), true);
                text.append("        ").append(line).append('\n');
            }
        }
        return text.append("        return wrong.toString();\n    }\n}\n").toString();
    }

    /** The exit code of a command, whose own new files and folders are to come into this folder. */
    private static int run(Path folder, String... command) throws Exception {
        Path said = folder.resolve("said");
        ProcessBuilder builder = new ProcessBuilder(command).redirectErrorStream(true);
        builder.environment().put("TMPDIR", folder.toString());
        Process running = builder.redirectOutput(said.toFile()).start();
        int exit = running.waitFor(300, TimeUnit.SECONDS) ? running.exitValue() : -1;
        running.destroyForcibly();
        if (exit != 0) {
            System.out.println(Files.readString(said));
        }
        return exit;
    }

    private static void example(Path folder, String name, String block) throws Exception {
        Path file = folder.resolve(name + ".java");
        Files.writeString(file, asClass(name, block));
        int compiled = run(folder, "javac", "-d", folder.toString(), "src/main/java/DrumLayers.java", file.toString());
        CHECK.due(name + " compiles", compiled, 0);
        if (compiled == 0) {
            try (URLClassLoader loader = new URLClassLoader(new URL[] {folder.toUri().toURL()})) {
                Object wrong = loader.loadClass(name).getMethod("wrong").invoke(null);
                CHECK.due(name, String.valueOf(wrong), "");
            }
        }
    }

    private static void examples(String readme, Path folder) throws Exception {
        List<String> all = blocks(readme, "java");
        CHECK.due("examples", all.size(), 2);
        for (int i = 0; i < all.size(); i++) {
            example(folder, "Example" + (i + 1), all.get(i));
        }
    }

    /** The second block is run as it stands; the first would run this test in itself without an end. */
    private static void commands(String readme, Path folder) throws Exception {
        List<String> all = blocks(readme, "sh");
        CHECK.due("commands", all.size(), 2);
        CHECK.due("the first", all.get(0), ".ci/run\n");
        CHECK.due("it can be run", Files.isExecutable(Path.of(".ci/run")), true);
        CHECK.due("the second", run(folder, "sh", "-e", "-c", all.get(1)), 0);
    }

    /** The names in the first column of the tables, "Name1 to Name3" being three. */
    private static Set<String> named(String readme) {
        Set<String> names = new TreeSet<>();
        for (String line : readme.split("\n")) {
            if (!line.startsWith("| `")) {
                continue;
            }
            String column = line.substring(1, line.indexOf('|', 1));
            Matcher range = Pattern.compile("`(\\w+?)(\\d+)Test` to `\\1(\\d+)Test`").matcher(column);
            if (range.find()) {
                String digits = "%0" + range.group(2).length() + "d";
                for (int n = Integer.parseInt(range.group(2)); n <= Integer.parseInt(range.group(3)); n++) {
                    names.add(range.group(1) + String.format(digits, n) + "Test");
                }
                continue;
            }
            Matcher name = Pattern.compile("`(\\w+)`").matcher(column);
            while (name.find()) {
                names.add(name.group(1));
            }
        }
        return names;
    }

    private static void lists(String readme) throws IOException {
        Set<String> due = new TreeSet<>();
        for (Method m : DrumLayers.class.getDeclaredMethods()) {
            if (Modifier.isPublic(m.getModifiers())) {
                due.add(m.getName());
            }
        }
        for (Class<?> inside : DrumLayers.class.getDeclaredClasses()) {
            due.add(inside.getSimpleName());
        }
        try (Stream<Path> files = Files.list(TESTS)) {
            files.map(file -> file.getFileName().toString()).filter(name -> name.endsWith("Test.java"))
                    .forEach(name -> due.add(name.substring(0, name.length() - ".java".length())));
        }
        CHECK.due("calls, classes and tests", String.join(" ", named(readme)), String.join(" ", due));
    }

    private static void remove(Path folder) throws IOException {
        try (Stream<Path> all = Files.walk(folder)) {
            for (Path one : all.sorted(Comparator.reverseOrder()).toList()) {
                Files.delete(one);
            }
        }
    }

    public static void main(String[] args) throws Exception {
        String readme = Files.readString(README);
        Path folder = Files.createTempDirectory("readme");
        try {
            examples(readme, folder);
            commands(readme, folder);
            lists(readme);
        } finally {
            remove(folder);
        }
        CHECK.finish();
    }
}
