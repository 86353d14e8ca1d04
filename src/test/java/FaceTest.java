import java.io.IOException;
import java.lang.reflect.Constructor;
import java.lang.reflect.Executable;
import java.lang.reflect.Field;
import java.lang.reflect.Method;
import java.lang.reflect.Modifier;
import java.nio.file.Files;
import java.nio.file.Paths;
import java.util.ArrayList;
import java.util.Arrays;
import java.util.HashMap;
import java.util.HashSet;
import java.util.List;
import java.util.Map;
import java.util.Set;
import java.util.TreeSet;
import java.util.regex.Pattern;

/** The face is the document's, no more and no less; the source keeps to the rules that can be seen in it. */
public final class FaceTest {
    private static final Set<String> LIBRARY = Set.of("java/lang/Object.<init>", "java/lang/System.arraycopy",
        "java/lang/Math.max", "java/lang/Math.min", "java/lang/Math.abs", "java/lang/Integer.bitCount", "java/lang/Long.bitCount",
        "java/lang/IllegalArgumentException.<init>", "java/util/NoSuchElementException.<init>");

    public static void main(String[] args) throws IOException {
        Class<?> c = NestQuery.class;
        Probe.due("public and final", Modifier.toString(c.getModifiers()), "public final");
        Probe.due("no class above", c.getSuperclass(), Object.class);
        Probe.due("no interfaces", c.getInterfaces().length, 0);
        methods(c);
        Constructor<?>[] made = c.getDeclaredConstructors();
        Probe.due("constructors", made.length, 1);
        Probe.due("the constructor", Modifier.isPublic(made[0].getModifiers()) && made[0].getParameterCount() == 0, true);
        fields(c);
        inside(c);
        source();
        code(c);
        Probe.finish();
    }

    private static void methods(Class<?> c) throws IOException {
        List<String> face = Document.read().face();
        Probe.due("calls of the face", face.size(), 28);
        List<String> promised = new ArrayList<>(face);
        promised.add(0, "NestQuery()");
        Probe.due("each call has its promise", Document.read().promised(), promised);
        Set<String> open = new TreeSet<>();
        Set<String> names = new HashSet<>();
        for (Method m : c.getDeclaredMethods()) {
            if (Modifier.isPublic(m.getModifiers())) {
                open.add(shown(m));
                names.add(m.getName());
            } else {
                Probe.due(m + " is private", Modifier.isPrivate(m.getModifiers()), true);
            }
        }
        Probe.due("the face", open, new TreeSet<>(face));
        for (Method m : c.getDeclaredMethods()) {
            if (!Modifier.isPublic(m.getModifiers())) {
                Probe.due(m + " bears a public name", names.contains(m.getName()), false);
            }
        }
        for (Class<?> in : c.getDeclaredClasses()) {
            for (Method m : in.getDeclaredMethods()) {
                Probe.due(m + " bears a public name", names.contains(m.getName()), false);
            }
        }
    }

    private static String shown(Method m) {
        List<String> types = new ArrayList<>();
        for (Class<?> t : m.getParameterTypes()) {
            types.add(t.getSimpleName());
        }
        List<String> thrown = new ArrayList<>();
        for (Class<?> t : m.getExceptionTypes()) {
            thrown.add(t.getSimpleName());
        }
        return m.getReturnType() + " " + m.getName() + "(" + String.join(",", types) + ")"
                + (thrown.isEmpty() ? "" : " throws " + String.join(",", thrown));
    }

    private static void fields(Class<?> c) {
        for (Field f : c.getDeclaredFields()) {
            String how = Modifier.toString(f.getModifiers());
            if (f.getName().equals("NONE")) {
                Probe.due("NONE", how, "public static final");
                Probe.due("NONE", NestQuery.NONE, -1);
            } else {
                Probe.due(f + " is private", Modifier.isPrivate(f.getModifiers()), true);
                Probe.due(f + " is no static state", how.contains("static") && !how.contains("final"), false);
            }
        }
    }

    private static void inside(Class<?> c) {
        Probe.due("at most twelve classes", c.getDeclaredClasses().length < 12, true);
        for (Class<?> in : c.getDeclaredClasses()) {
            Probe.due(in + "", Modifier.toString(in.getModifiers()), "private static final");
            int own = 0;
            for (Field f : in.getDeclaredFields()) {
                boolean fixed = Modifier.isStatic(f.getModifiers());
                own += fixed ? 0 : 1;
                Probe.due(f + " is no static state", fixed && !Modifier.isFinal(f.getModifiers()), false);
            }
            Probe.due("fields of " + in, own <= 20, true);
            List<Executable> all = new ArrayList<>(Arrays.asList(in.getDeclaredMethods()));
            all.addAll(Arrays.asList(in.getDeclaredConstructors()));
            for (Executable e : all) {
                Probe.due("parameters of " + e, e.getParameterCount() <= 7, true);
            }
        }
    }

    private static void source() throws IOException {
        String text = Files.readString(Paths.get("src/main/java/NestQuery.java"));
        String[] not = {"->", "::", "\\btry\\b", "\\bcatch\\b", "\\bfinally\\b", "\\bassert\\b", "\\bsynchronized\\b",
            "Exact\\(", "^package ", "\\binstanceof\\b", "\\bstatic \\{", "\" \\+", "\\+ \"", "\\bprotected\\b"};
        for (String one : not) {
            Probe.due("in the source: " + one, Pattern.compile(one, Pattern.MULTILINE).matcher(text).find(), false);
        }
        Probe.due("imports", text.split("\nimport |^import ", -1).length - 1, 1);
        Probe.due("plain signs alone", text.chars().allMatch(s -> s == '\n' || s >= 32 && s < 127), true);
        int length = 0;
        for (String line : text.split("\n")) {
            boolean begins = line.matches(" {4,8}[a-zA-Z].*[({].*\\{") && !line.contains(" class ");
            length = begins ? 0 : length + 1;
            Probe.due("a method as long as " + line, length <= 60 || !line.matches(" {4,8}\\}"), true);
        }
    }

    /** What the compiled classes call: of the library only what the language allows, and at most eight deep. */
    private static void code(Class<?> c) throws IOException {
        Map<String, Set<String>> calls = new HashMap<>(new ClassFile(c.getName()).calls);
        for (Class<?> in : c.getDeclaredClasses()) {
            calls.putAll(new ClassFile(in.getName()).calls);
        }
        Set<String> library = new TreeSet<>();
        calls.values().forEach(library::addAll);
        library.removeAll(calls.keySet());
        library.removeAll(LIBRARY);
        Probe.due("calls outside the language", library, "[]");
        for (Method m : c.getDeclaredMethods()) {
            if (Modifier.isPublic(m.getModifiers())) {
                Probe.due("calls of " + m.getName() + " at most eight deep", deepest("NestQuery." + m.getName(), calls, new HashSet<>()) <= 8, true);
            }
        }
    }

    /** How deep calls go from a method on; those that lead back to a method, or to one it recurses with, are not counted. */
    private static int deepest(String from, Map<String, Set<String>> calls, Set<String> open) {
        int most = 0;
        Set<String> together = recursing(from, calls);
        open.addAll(together);
        for (String one : together) {
            for (String to : calls.getOrDefault(one, Set.of())) {
                if (calls.containsKey(to) && !open.contains(to)) {
                    most = Math.max(most, deepest(to, calls, new HashSet<>(open)));
                }
            }
        }
        return most + 1;
    }

    private static Set<String> recursing(String method, Map<String, Set<String>> calls) {
        Set<String> together = new HashSet<>();
        together.add(method);
        for (String to : reached(method, calls)) {
            if (reached(to, calls).contains(method)) {
                together.add(to);
            }
        }
        return together;
    }

    private static Set<String> reached(String from, Map<String, Set<String>> calls) {
        Set<String> seen = new HashSet<>();
        List<String> open = new ArrayList<>(calls.getOrDefault(from, Set.of()));
        while (!open.isEmpty()) {
            String next = open.remove(open.size() - 1);
            if (seen.add(next)) {
                open.addAll(calls.getOrDefault(next, Set.of()));
            }
        }
        return seen;
    }
}
