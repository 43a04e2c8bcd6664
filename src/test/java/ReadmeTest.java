import java.io.IOException;
import java.lang.reflect.Method;
import java.lang.reflect.Modifier;
import java.net.URL;
import java.net.URLClassLoader;
import java.nio.file.Files;
import java.nio.file.Path;
import java.util.ArrayList;
import java.util.Comparator;
import java.util.List;
import java.util.regex.Matcher;
import java.util.regex.Pattern;
import java.util.stream.Stream;
import javax.tools.JavaCompiler;
import javax.tools.ToolProvider;

/** README.md holds as it is written: its example compiles and answers what it says, and all methods and tests are named. */
public final class ReadmeTest {
    private static final Pattern EXAMPLE = Pattern.compile("(?s)```java\n(.*?)```");
    private static final Pattern LINE = Pattern.compile("(?:int (\\w+) = )?(room\\.\\w+\\([^;]*\\));\\s*// (-?\\d+):.*");
    private static int wrong = 0;

    public static void main(String[] args) throws Exception {
        String readme = Files.readString(Path.of("README.md"));
        namesAll(readme);
        Matcher example = EXAMPLE.matcher(readme);
        holds(example.find(), "README.md has an example");
        if (wrong == 0) runs(example.group(1));
        System.out.println(wrong == 0 ? "README.md holds" : wrong + " things in README.md do not hold");
        if (wrong != 0) System.exit(1);
    }

    private static void holds(boolean right, String what) {
        if (!right) {
            wrong++;
            System.out.println("not so: " + what);
        }
    }

    private static void namesAll(String readme) throws IOException {
        for (Method m : CallRoom.class.getDeclaredMethods()) {
            if (Modifier.isPublic(m.getModifiers())) {
                String parameters = "\\w+" + ", \\w+".repeat(m.getParameterCount() - 1);
                boolean named = Pattern.compile("`" + m.getName() + "\\(" + parameters + "\\)`").matcher(readme).find();
                holds(named, m.getName() + " is named with its parameters");
            }
        }
        try (Stream<Path> files = Files.list(Path.of("src/test/java"))) {
            files.filter(f -> f.toString().endsWith("Test.java"))
                .forEach(f -> holds(readme.contains("`src/test/java/" + f.getFileName() + "`"), f + " is named"));
        }
        Matcher path = Pattern.compile("`(src/[^`]*|\\.ci/run|\\.\\./shared/[^`]*)`").matcher(readme);
        while (path.find()) {
            holds(Files.exists(Path.of(path.group(1))), path.group(1) + " is there");
        }
    }

    /** Each line's answer is put into an array, so that it can be held against what the line says. */
    private static void runs(String example) throws Exception {
        StringBuilder source = new StringBuilder("public class Example { public static int[] answers() {\n");
        List<String> texts = new ArrayList<>();
        List<Integer> dues = new ArrayList<>();
        StringBuilder answers = new StringBuilder();
        for (String line : example.split("\n")) {
            Matcher m = LINE.matcher(line);
            if (m.matches()) {
                String name = m.group(1) == null ? "answer" + dues.size() : m.group(1);
                source.append("int ").append(name).append(" = ").append(m.group(2)).append(";\n");
                answers.append(name).append(", ");
                texts.add(line);
                dues.add(Integer.valueOf(m.group(3)));
            } else {
                holds(line.equals("CallRoom room = new CallRoom();"), "a line with its answer: " + line);
                source.append(line).append('\n');
            }
        }
        source.append("return new int[] {").append(answers).append("}; } }\n");
        int[] got = answersOf(source.toString());
        holds(got.length == dues.size() && got.length > 0, "all lines of the example answer");
        for (int i = 0; i < got.length; i++) {
            holds(got[i] == dues.get(i), texts.get(i) + " but it answered " + got[i]);
        }
    }

    private static int[] answersOf(String source) throws Exception {
        Path directory = Files.createTempDirectory("readme");
        try {
            Path file = Files.writeString(directory.resolve("Example.java"), source);
            JavaCompiler compiler = ToolProvider.getSystemJavaCompiler();
            int failed = compiler.run(null, null, null, "-d", directory.toString(), file.toString(),
                "src/main/java/CallRoom.java");
            holds(failed == 0, "the example compiles");
            if (failed != 0) return new int[0];
            URL[] here = {directory.toUri().toURL()};
            try (URLClassLoader loader = new URLClassLoader(here, ClassLoader.getPlatformClassLoader())) {
                return (int[]) loader.loadClass("Example").getMethod("answers").invoke(null);
            }
        } finally {
            try (Stream<Path> made = Files.walk(directory)) {
                made.sorted(Comparator.reverseOrder()).forEach(p -> p.toFile().delete());
            }
        }
    }
}
