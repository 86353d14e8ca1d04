import java.lang.reflect.InvocationTargetException;
import java.lang.reflect.Method;
import java.util.ArrayList;
import java.util.Arrays;
import java.util.Comparator;
import java.util.List;
import java.util.Random;

/** Any arguments in any state: nothing but what the face names is ever thrown, and all goes on behind it. */
public final class WildTest {
    private static final int[] EDGES = {Integer.MIN_VALUE, Integer.MIN_VALUE + 1, -1000, -999, -61, -60, -2, -1, 0, 1, 2, 3,
        4, 5, 7, 8, 9, 17, 18, 19, 20, 21, 39, 40, 41, 59, 60, 61, 63, 64, 65, 120, 127, 128, 399, 400, 401, 999, 1000, 1024,
        1 << 25, 1 << 30, Integer.MAX_VALUE - 1, Integer.MAX_VALUE};
    private static final String SIGNS = "[]{}(),:.*?@!&|=<>-0123456789abcxyz \n";
    private static final String[] TEXTS = {"[1,[2,{a:x}],3]", "{a:[1,2],b:{a:{}}}", "..", "...a", "..?(@)", "[0:2]..", "..[-1]",
        "..?(!@.a|@[0]>1&(@=x))", "[[[[[[[1]]]]]]]", "{a:1,b:2,c:3,d:4}", ".*", "", "7"};

    public static void main(String[] args) throws IllegalAccessException {
        List<Method> face = new ArrayList<>();
        for (Method m : NestQuery.class.getDeclaredMethods()) {
            if (java.lang.reflect.Modifier.isPublic(m.getModifiers())) {
                face.add(m);
            }
        }
        face.sort(Comparator.comparing(Method::toString));
        for (int run = 0; run < 1500; run++) {
            wildRun(new Random(run), face, run);
        }
        Probe.finish();
    }

    private static void wildRun(Random r, List<Method> face, int run) throws IllegalAccessException {
        NestQuery x = new NestQuery();
        for (int call = 0; call < 300; call++) {
            Method m = face.get(r.nextInt(face.size()));
            int length = r.nextInt(3) == 0 ? fed(r, x) : -1;
            Object[] with = drawn(r, m, length);
            String what = "run " + run + " call " + call + ": " + m.getName() + Arrays.toString(with);
            try {
                m.invoke(x, with);
            } catch (InvocationTargetException e) {
                Class<?> thrown = e.getCause().getClass();
                Probe.due(what + " throws " + e.getCause(), Arrays.asList(m.getExceptionTypes()).contains(thrown), true);
            }
            Probe.due(what + ": too many things", x.count(0) >= 1 && x.count(0) <= 60 && x.count(5) <= 7, true);
        }
        Probe.due("told of a wild tree is data again", Probe.tree(x, Probe.all(x)) >= 0, true);
    }

    /** Feeds a text, now and then one of any bytes: its length. */
    private static int fed(Random r, NestQuery x) {
        if (r.nextInt(3) > 0) {
            return Probe.feed(x, TEXTS[r.nextInt(TEXTS.length)]);
        }
        StringBuilder b = new StringBuilder();
        for (int k = r.nextInt(60); k > 0; k--) {
            b.append(r.nextInt(20) == 0 ? (char) r.nextInt(256) : SIGNS.charAt(r.nextInt(SIGNS.length())));
        }
        return Probe.feed(x, b.toString());
    }

    private static Object[] drawn(Random r, Method m, int length) {
        Class<?>[] types = m.getParameterTypes();
        Object[] with = new Object[types.length];
        for (int k = 0; k < types.length; k++) {
            if (types[k] == boolean.class) {
                with[k] = r.nextBoolean();
            } else if (length >= 0 && k == types.length - 1) {
                with[k] = length;
            } else {
                with[k] = r.nextInt(3) > 0 ? (Integer) r.nextInt(4) : (Integer) EDGES[r.nextInt(EDGES.length)];
            }
        }
        return with;
    }
}
