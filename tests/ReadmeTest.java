import java.io.IOException;
import java.io.StringWriter;
import java.lang.reflect.Field;
import java.net.URI;
import java.net.URL;
import java.net.URLClassLoader;
import java.nio.file.DirectoryStream;
import java.nio.file.Files;
import java.nio.file.Path;
import java.util.ArrayList;
import java.util.Comparator;
import java.util.HashSet;
import java.util.List;
import java.util.Set;
import java.util.regex.Matcher;
import java.util.regex.Pattern;
import java.util.stream.Stream;
import javax.tools.JavaCompiler;
import javax.tools.JavaFileObject;
import javax.tools.SimpleJavaFileObject;
import javax.tools.StandardJavaFileManager;
import javax.tools.ToolProvider;

/** README.md: its examples compile as they stand and answer as it says; its constants and tests are those there are. */
public final class ReadmeTest {
    private static final Due DUE = new Due();
    private static final Pattern EXAMPLE = Pattern.compile("(?s)```java\n(.*?)```");
    private static final Pattern ANSWERED = Pattern.compile("(?:int (\\w+) = )?(x\\.(\\w+)\\(.*?\\)); +// (-?\\d+)(?:: .+)?");
    private static final Pattern SILENT = Pattern.compile("HailCellar x = new HailCellar\\(\\);|for \\(.*\\) x\\.\\w+\\(.*\\);");
    private static final Pattern CONSTANT = Pattern.compile("(?m)^\\| `([A-Z]+)` \\| (-\\d+) \\|");
    private static final Pattern TEST = Pattern.compile("(?m)^\\| `(tests/\\w+Test\\.java)` \\|");

    private static final class Source extends SimpleJavaFileObject {
        private final String text;

        Source(String className, String text) {
            super(URI.create("string:///" + className + ".java"), Kind.SOURCE);
            this.text = text;
        }

        @Override
        public CharSequence getCharContent(boolean ignoreEncodingErrors) {
            return text;
        }
    }

    /** A class with the example as it stands, and with a list of what its calls answer. */
    private static String classOf(String name, List<String> lines) {
        StringBuilder all = new StringBuilder("public final class " + name + " {\n    static void asItStands() {\n");
        for (String line : lines) {
            all.append(line).append('\n');
        }
        all.append("    }\n    public static void answers(java.util.List<Long> all) {\n");
        for (String line : lines) {
            Matcher m = ANSWERED.matcher(line);
            if (!m.matches()) {
                all.append(line).append('\n');
            } else if (m.group(1) != null) {
                all.append(line).append('\n').append("all.add((long) ").append(m.group(1)).append(");\n");
            } else {
                all.append("all.add((long) ").append(m.group(2)).append(");\n");
            }
        }
        return all.append("    }\n}\n").toString();
    }

    private static boolean compiles(String name, String text, Path out) throws IOException {
        JavaCompiler compiler = ToolProvider.getSystemJavaCompiler();
        StringWriter said = new StringWriter();
        try (StandardJavaFileManager files = compiler.getStandardFileManager(null, null, null)) {
            List<String> options = List.of("-proc:none", "-cp", System.getProperty("java.class.path"), "-d", out.toString());
            List<JavaFileObject> sources = List.of(new Source(name, text));
            boolean fine = compiler.getTask(said, files, null, options, null, sources).call();
            System.out.print(said);
            return fine;
        }
    }

    private static List<Long> answersOf(String name, Path out) throws Exception {
        List<Long> answers = new ArrayList<>();
        try (URLClassLoader loader = new URLClassLoader(new URL[] {out.toUri().toURL()}, ReadmeTest.class.getClassLoader())) {
            loader.loadClass(name).getMethod("answers", List.class).invoke(null, answers);
        }
        return answers;
    }

    /** How many calls of an example are told with an answer. */
    private static int example(String name, String block, Path out, Set<String> calls) throws Exception {
        List<String> lines = block.lines().toList();
        List<Matcher> told = new ArrayList<>();
        for (String line : lines) {
            Matcher m = ANSWERED.matcher(line);
            boolean answered = m.matches();
            DUE.hold(name + ": a call with its answer, or a line that tells none: " + line, answered || SILENT.matcher(line).matches());
            if (answered) {
                told.add(m);
                calls.add(m.group(3));
            }
        }
        boolean compiles = compiles(name, classOf(name, lines), out);
        DUE.hold(name + " compiles", compiles);
        if (!compiles) {
            return 0;
        }
        List<Long> answers = answersOf(name, out);
        DUE.be(name + ": how many calls answer", answers.size(), told.size());
        for (int i = 0; i < Math.min(answers.size(), told.size()); i++) {
            DUE.be(name + ": " + told.get(i).group(2), answers.get(i), Long.parseLong(told.get(i).group(4)));
        }
        return told.size();
    }

    private static void examples(String readme) throws Exception {
        Path out = Files.createTempDirectory("readme");
        try {
            Set<String> calls = new HashSet<>();
            int told = 0;
            int n = 0;
            Matcher m = EXAMPLE.matcher(readme);
            while (m.find()) {
                n++;
                told += example("Example" + n, m.group(1), out, calls);
            }
            DUE.hold("examples with answers, " + told, n >= 3 && told >= 40 && calls.size() >= 20);
            DUE.be("all blocks of Java are examples", readme.split("```java", -1).length - 1, n);
        } finally {
            try (Stream<Path> all = Files.walk(out)) {
                for (Path path : all.sorted(Comparator.reverseOrder()).toList()) {
                    Files.delete(path);
                }
            }
        }
    }

    private static void constants(String readme) throws Exception {
        Set<String> due = new HashSet<>(Set.of("NONE", "BAD", "NO", "FULL"));
        Matcher m = CONSTANT.matcher(readme);
        while (m.find()) {
            DUE.hold(m.group(1) + " is told once", due.remove(m.group(1)));
            Field constant = HailCellar.class.getField(m.group(1));
            DUE.be(m.group(1), constant.getInt(null), Integer.parseInt(m.group(2)));
        }
        DUE.hold("all constants are told, missing " + due, due.isEmpty());
        DUE.hold("for how many calls an object is used", readme.contains("An object is used for at most 512 calls after it has been made"));
    }

    private static void tests(String readme) throws IOException {
        Set<String> told = new HashSet<>();
        Matcher m = TEST.matcher(readme);
        while (m.find()) {
            told.add(m.group(1));
            DUE.hold(m.group(1) + " is there", Files.isRegularFile(Path.of(m.group(1))));
        }
        try (DirectoryStream<Path> files = Files.newDirectoryStream(Path.of("tests"), "*Test.java")) {
            for (Path file : files) {
                String name = "tests/" + file.getFileName();
                DUE.hold(name + " is told", told.contains(name) || name.endsWith("EdgeTest.java"));
            }
        }
        DUE.hold(".ci/run is told and is there", readme.contains("    .ci/run\n") && Files.isExecutable(Path.of(".ci/run")));
    }

    public static void main(String[] args) throws Exception {
        String readme = Files.readString(Path.of("README.md"));
        examples(readme);
        constants(readme);
        tests(readme);
        DUE.end("ReadmeTest");
    }
}
