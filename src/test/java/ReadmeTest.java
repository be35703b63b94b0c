import java.io.ByteArrayOutputStream;
import java.io.File;
import java.io.IOException;
import java.io.PrintStream;
import java.net.URL;
import java.net.URLClassLoader;
import java.nio.charset.StandardCharsets;
import java.nio.file.Files;
import java.nio.file.Path;
import java.util.ArrayList;
import java.util.Comparator;
import java.util.List;
import java.util.Set;
import java.util.TreeSet;
import java.util.regex.Matcher;
import java.util.regex.Pattern;
import java.util.stream.Stream;
import javax.tools.ToolProvider;

/** That README.md is true: the answers in its example, its commands, and the tests that it names. */
public final class ReadmeTest {
    private static final Check CHECK = new Check("ReadmeTest");
    /** "cluster.beat(1);   // 1: why", with a name ahead that the answer gets, or without. */
    private static final Pattern CALL = Pattern.compile("(?:(int \\w+) = )?(cluster\\..*\\)); +// (\".*\"|-?\\d+|true|false)(?:: .*)?");
    private static final Pattern TEST = Pattern.compile("`(\\w+Test)`");
    private static final String MADE_IN_README = "/tmp/out";

    public static void main(String[] args) throws Exception {
        String page = Files.readString(Path.of("README.md"));
        Path made = Files.createTempDirectory("readme");
        try {
            example(blocks(page, "java"), made);
            commands(blocks(page, "sh"), made);
        } finally {
            remove(made);
        }
        names(page);
        CHECK.end();
    }

    /** The lines of all blocks of a language. */
    private static List<String> blocks(String page, String language) {
        List<String> lines = new ArrayList<>();
        Matcher block = Pattern.compile("```" + language + "\n(.*?)```", Pattern.DOTALL).matcher(page);
        while (block.find()) {
            lines.addAll(block.group(1).lines().toList());
        }
        CHECK.is("there are lines of " + language, lines.isEmpty(), false);
        return lines;
    }

    private static void example(List<String> lines, Path made) throws Exception {
        CHECK.is("the first line", lines.get(0), "Searchcluster cluster = new Searchcluster();");
        StringBuilder source = new StringBuilder("public final class Example { public static void main(String[] args) { ");
        source.append(lines.get(0));
        List<String> due = new ArrayList<>();
        for (String line : lines.subList(1, lines.size())) {
            Matcher call = CALL.matcher(line);
            CHECK.is("a call with its answer: " + line, call.matches(), true);
            if (!call.matches()) {
                return;
            }
            due.add(call.group(2) + " " + call.group(3));
            String answer = "answer" + due.size();
            source.append("\nvar ").append(answer).append(" = ").append(call.group(2)).append("; ");
            if (call.group(1) != null) {
                source.append(call.group(1)).append(" = ").append(answer).append("; ");
            }
            source.append("System.out.println((Object) ").append(answer).append(" instanceof String ? \"\\\"\" + ").append(answer)
                    .append(" + \"\\\"\" : ").append(answer).append(");");
        }
        List<String> got = run(source.append(" } }").toString(), made);
        CHECK.is("answers", got.size(), due.size());
        for (int i = 0; i < due.size() && i < got.size(); i++) {
            String call = due.get(i).substring(0, due.get(i).indexOf(") ") + 1);
            CHECK.is(call, got.get(i), due.get(i).substring(call.length() + 1));
        }
    }

    /** What a class that is called Example prints. */
    private static List<String> run(String source, Path made) throws Exception {
        Path file = made.resolve("Example.java");
        Files.writeString(file, source);
        int code = ToolProvider.getSystemJavaCompiler().run(null, null, null, "-d", made.toString(), "-cp",
                System.getProperty("java.class.path"), file.toString());
        CHECK.is("the example compiles", code, 0);
        ByteArrayOutputStream told = new ByteArrayOutputStream();
        PrintStream before = System.out;
        try (URLClassLoader loader = new URLClassLoader(new URL[] {made.toUri().toURL()})) {
            System.setOut(new PrintStream(told, true, StandardCharsets.UTF_8));
            loader.loadClass("Example").getMethod("main", String[].class).invoke(null, (Object) new String[0]);
        } finally {
            System.setOut(before);
        }
        return told.toString(StandardCharsets.UTF_8).lines().toList();
    }

    /** All but that which runs all tests, this one too; what is made goes to a place of its own. */
    private static void commands(List<String> lines, Path made) throws IOException, InterruptedException {
        CHECK.is("all tests are run by", lines.contains("bash .ci/run"), true);
        for (String line : lines) {
            if (line.equals("bash .ci/run")) {
                continue;
            }
            String command = line.replace(MADE_IN_README, made + "/out").replace("-d out ", "-d " + made + "/use ");
            File log = made.resolve("log").toFile();
            Process process = new ProcessBuilder("bash", "-c", command).redirectErrorStream(true).redirectOutput(log).start();
            CHECK.is(line, process.waitFor() == 0 ? "passes" : Files.readString(log.toPath()), "passes");
        }
    }

    private static void names(String page) throws IOException {
        Set<String> named = new TreeSet<>();
        Matcher test = TEST.matcher(page);
        while (test.find()) {
            named.add(test.group(1));
        }
        try (Stream<Path> files = Files.list(Path.of("src/test/java"))) {
            Set<String> standing = new TreeSet<>();
            files.map(file -> file.getFileName().toString()).filter(name -> name.endsWith("Test.java"))
                    .forEach(name -> standing.add(name.replace(".java", "")));
            CHECK.is("the tests that it names", named, standing);
        }
    }

    private static void remove(Path folder) throws IOException {
        try (Stream<Path> all = Files.walk(folder)) {
            for (Path path : all.sorted(Comparator.reverseOrder()).toList()) {
                Files.delete(path);
            }
        }
    }
}
