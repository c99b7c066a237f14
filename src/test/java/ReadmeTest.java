import java.io.IOException;
import java.net.URL;
import java.net.URLClassLoader;
import java.nio.file.Files;
import java.nio.file.Path;
import java.util.ArrayList;
import java.util.List;
import java.util.Set;
import java.util.TreeSet;
import java.util.regex.Matcher;
import java.util.regex.Pattern;
import java.util.stream.Stream;
import javax.tools.ToolProvider;

/** What README.md says: its examples, compiled and run in their order, and the files it names. */
public final class ReadmeTest {
    private static final Path PAGE = Path.of("README.md");
    private static final Pattern BLOCK = Pattern.compile("```java\n(.*?)```", Pattern.DOTALL);
    private static final Pattern TOLD = Pattern.compile("^(?:int|long) (\\w+) = [^\n]*; *// (-?\\d+)(?=:)", Pattern.MULTILINE);
    private static final Pattern DECLARED = Pattern.compile("^(?:int|long) \\w+ = ", Pattern.MULTILINE);
    private static final Pattern FILE = Pattern.compile("src/[\\w/]+\\.java");
    private static int wrong = 0;

    private static void complain(String what) {
        wrong++;
        System.out.println("README.md: " + what);
    }

    private static String examples(String page) {
        StringBuilder code = new StringBuilder();
        Matcher block = BLOCK.matcher(page);
        while (block.find()) {
            code.append(block.group(1));
        }
        return code.toString();
    }

    private static String program(String code, List<String> names) {
        StringBuilder b = new StringBuilder("public final class Example {\npublic static long[] answers() {\n");
        return b.append(code).append("return new long[] {").append(String.join(", ", names)).append("};\n}\n}\n").toString();
    }

    private static long[] run(String program, Path out) throws Exception {
        Path source = Files.writeString(out.resolve("Example.java"), program);
        String[] told = {"-cp", System.getProperty("java.class.path"), "-d", out.toString(), source.toString()};
        if (ToolProvider.getSystemJavaCompiler().run(null, null, null, told) != 0) {
            complain("the examples do not compile");
            return new long[0];
        }
        try (URLClassLoader loader = new URLClassLoader(new URL[] {out.toUri().toURL()})) {
            return (long[]) loader.loadClass("Example").getMethod("answers").invoke(null);
        }
    }

    private static int lookAtAnswers(String page) throws Exception {
        String code = examples(page);
        List<String> names = new ArrayList<>();
        List<Long> due = new ArrayList<>();
        Matcher told = TOLD.matcher(code);
        while (told.find()) {
            names.add(told.group(1));
            due.add(Long.parseLong(told.group(2)));
        }
        if (names.isEmpty() || names.size() != DECLARED.matcher(code).results().count()) {
            complain("an answer of an example is not told behind it");
        }
        Path out = Files.createTempDirectory("readme");
        try {
            long[] got = run(program(code, names), out);
            for (int i = 0; i < got.length; i++) {
                if (got[i] != due.get(i)) {
                    complain(names.get(i) + " is " + got[i] + ", told is " + due.get(i));
                }
            }
        } finally {
            Files.deleteIfExists(out.resolve("Example.java"));
            Files.deleteIfExists(out.resolve("Example.class"));
            Files.deleteIfExists(out);
        }
        return names.size();
    }

    private static void lookAtFiles(String page) throws IOException {
        Set<String> named = new TreeSet<>();
        Matcher file = FILE.matcher(page);
        while (file.find()) {
            named.add(file.group());
        }
        for (String name : named) {
            if (!Files.exists(Path.of(name))) {
                complain("there is no " + name);
            }
        }
        try (Stream<Path> tests = Files.list(Path.of("src/test/java"))) {
            tests.map(test -> "src/test/java/" + test.getFileName()).filter(test -> test.endsWith("Test.java"))
                .filter(test -> !named.contains(test)).forEach(test -> complain("says nothing of " + test));
        }
    }

    public static void main(String[] args) throws Exception {
        String page = Files.readString(PAGE);
        int answers = lookAtAnswers(page);
        lookAtFiles(page);
        System.out.println(wrong == 0 ? answers + " answers of README.md are as told" : wrong + " things are not as told");
        if (wrong != 0) {
            System.exit(1);
        }
    }
}
