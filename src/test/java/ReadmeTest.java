import java.lang.reflect.Method;
import java.lang.reflect.Modifier;
import java.net.URL;
import java.net.URLClassLoader;
import java.nio.file.Files;
import java.nio.file.Path;
import java.util.ArrayList;
import java.util.List;
import java.util.regex.Matcher;
import java.util.regex.Pattern;
import java.util.stream.Stream;
import javax.tools.ToolProvider;

/** README.md names every call and constant, and its examples answer what stands behind them. */
final class ReadmeTest {
    private static final Pattern BLOCK = Pattern.compile("```java\n(.*?)```", Pattern.DOTALL);
    private static final Pattern TOLD = Pattern.compile("(x\\.\\w+\\(.*\\)); *// (-?\\d+)(:.*)?");

    private static final List<String> CALLS = new ArrayList<>();
    private static final List<Long> DUE = new ArrayList<>();

    public static void main(String[] args) throws Exception {
        String readme = Files.readString(Path.of("README.md"));
        namesTheFace(readme);
        String code = examples(readme);
        Check.holds("README: examples", CALLS.size() > 30);
        long[] got = answers(code);
        for (int i = 0; i < CALLS.size(); i++) Check.due("README: " + CALLS.get(i), DUE.get(i), got[i]);
        Check.end("ReadmeTest");
    }

    private static void namesTheFace(String readme) throws Exception {
        for (Method m : TuneAndWords.class.getDeclaredMethods()) {
            if (!Modifier.isPublic(m.getModifiers())) continue;
            Check.holds("README names " + m.getName(), readme.contains("`" + m.getName() + "("));
        }
        for (String constant : new String[] {"BAD", "NOT", "FULL", "STATE", "VOID"}) {
            int value = TuneAndWords.class.getField(constant).getInt(null);
            Check.holds("README names " + constant, Pattern.compile("`" + constant + "`\\s\\(" + value + "\\)").matcher(readme).find());
        }
    }

    /** All blocks of Java as one run of calls, which hands out the answers that are told. */
    private static String examples(String readme) {
        StringBuilder code = new StringBuilder("public final class Examples { public static long[] run() {\n");
        code.append("long[] answers = new long[512]; int n = 0;\n");
        for (Matcher block = BLOCK.matcher(readme); block.find();) {
            for (String line : block.group(1).split("\n")) {
                Matcher m = TOLD.matcher(line);
                boolean told = m.matches();
                Check.holds("README: an answer is told: " + line, told || !line.contains("//"));
                if (told) {
                    CALLS.add(m.group(1));
                    DUE.add(Long.valueOf(m.group(2)));
                }
                code.append(told ? "answers[n++] = " + m.group(1) + ";" : line).append('\n');
            }
        }
        return code.append("return answers; } }\n").toString();
    }

    private static long[] answers(String code) throws Exception {
        Path folder = Files.createTempDirectory("readme");
        try {
            Path source = folder.resolve("Examples.java");
            Files.writeString(source, code);
            int failed = ToolProvider.getSystemJavaCompiler().run(null, null, null, "-cp",
                    System.getProperty("java.class.path"), "-d", folder.toString(), source.toString());
            Check.due("README: its examples compile", 0, failed);
            if (failed != 0) return new long[CALLS.size()];
            try (URLClassLoader loader = new URLClassLoader(new URL[] {folder.toUri().toURL()})) {
                return (long[]) loader.loadClass("Examples").getMethod("run").invoke(null);
            }
        } finally {
            try (Stream<Path> files = Files.list(folder)) {
                for (Path file : (Iterable<Path>) files::iterator) Files.delete(file);
            }
            Files.delete(folder);
        }
    }
}
