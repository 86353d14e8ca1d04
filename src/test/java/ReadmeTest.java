import java.io.IOException;
import java.lang.reflect.InvocationTargetException;
import java.net.URL;
import java.net.URLClassLoader;
import java.nio.file.Files;
import java.nio.file.Path;
import java.nio.file.Paths;
import java.util.ArrayList;
import java.util.List;
import java.util.regex.Matcher;
import java.util.regex.Pattern;
import java.util.stream.Stream;

/** Plays the example of README.md: it is compiled as it stands there, and each call answers what stands behind it. */
public final class ReadmeTest {
    private static final Pattern BLOCK = Pattern.compile("```java\\n(.*?)```", Pattern.DOTALL);
    private static final Pattern ANSWERED = Pattern.compile("(?m)^(q\\..*); *// (?:throws (\\w+)|(\\S+))$");

    private ReadmeTest() {
    }

    /** What the compiled example calls for each of its lines. */
    public static void due(String call, Object got, String want) {
        Probe.due(call, got, want);
    }

    public static void main(String[] args) throws IOException, ReflectiveOperationException, InterruptedException {
        List<String> blocks = new ArrayList<>();
        Matcher found = BLOCK.matcher(Files.readString(Paths.get("README.md")));
        while (found.find()) {
            blocks.add(found.group(1));
        }
        Probe.due("blocks of Java in README.md", blocks.size(), 2);
        if (blocks.size() == 2) {
            play(asClass(blocks.get(0), blocks.get(1)));
        }
        Probe.finish();
    }

    private static String asClass(String helper, String example) {
        Matcher lines = ANSWERED.matcher(example);
        Probe.due("lines with an answer", lines.results().count() > 20, true);
        String asked = ANSWERED.matcher(example).replaceAll(line -> {
            String call = line.group(1);
            String name = "\"" + call.replace("\"", "'") + "\"";
            String want = line.group(2) != null ? "throws " + line.group(2) : line.group(3);
            String got = line.group(2) == null ? call : "thrown(() -> " + call + ")";
            return Matcher.quoteReplacement("ReadmeTest.due(" + name + ", " + got + ", \"" + want + "\");");
        });
        return "public final class Example {\n" + helper
                + "static String thrown(Runnable call) { try { call.run(); } catch (RuntimeException e) {"
                + " return \"throws \" + e.getClass().getSimpleName(); } return \"nothing\"; }\n"
                + "public static void main(String[] args) {\n" + asked + "}\n}\n";
    }

    private static void play(String source) throws IOException, ReflectiveOperationException, InterruptedException {
        Path folder = Files.createTempDirectory("readme");
        try {
            Path file = folder.resolve("Example.java");
            Files.writeString(file, source);
            String classes = System.getProperty("java.class.path");
            Process javac = new ProcessBuilder("javac", "-cp", classes, "-d", folder.toString(), file.toString()).inheritIO().start();
            int failed = javac.waitFor();
            Probe.due("the example is compiled", failed, 0);
            if (failed == 0) {
                run(folder);
            }
        } finally {
            try (Stream<Path> all = Files.list(folder)) {
                for (Path one : (Iterable<Path>) all::iterator) {
                    Files.delete(one);
                }
            }
            Files.delete(folder);
        }
    }

    private static void run(Path folder) throws IOException, ReflectiveOperationException {
        try (URLClassLoader loader = new URLClassLoader(new URL[] {folder.toUri().toURL()})) {
            loader.loadClass("Example").getMethod("main", String[].class).invoke(null, (Object) new String[0]);
        } catch (InvocationTargetException e) {
            Probe.due("the example throws", e.getCause(), "nothing");
        }
    }
}
