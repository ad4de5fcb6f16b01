import java.lang.reflect.InvocationTargetException;
import java.lang.reflect.Method;
import java.lang.reflect.Modifier;
import java.lang.reflect.Parameter;
import java.util.ArrayList;
import java.util.Arrays;
import java.util.Comparator;
import java.util.List;

/** Runs of calls drawn by fixed seeds, each on BoneWords and on the Model: their answers must be the same. */
public final class ModelTests {
    private static final int RUNS = 300;
    private static final int CALLS = 400;
    private static final int[] EDGES = {-1, 0, 1, 2, 9, 10, 20, 21, 40, 41, 60, 61, 99, 100, 101, 255, 999, 1000, 9999,
        10000, -2, -1000001, Integer.MAX_VALUE, Integer.MIN_VALUE, Integer.MIN_VALUE + 1, Integer.MAX_VALUE - 1};
    private static final String[] PIECES = {"writer", "poet", "scholar", "lawyer", "censor", "child", "widow", "word",
        "fat", "fish", "jar", "catch", ";", " ", "", "#", "A", "poe", "0", "7", "12", "0099", "999", "1000", "9999",
        "10000", "99999999999", "20", "21", "\t", "\u00e9"};

    private long state;

    private ModelTests(long seed) {
        state = seed * 0x9E3779B97F4A7C15L + 1;
    }

    private int draw(int end) {
        state ^= state << 13;
        state ^= state >>> 7;
        state ^= state << 17;
        return (int) Long.remainderUnsigned(state >>> 11, end);
    }

    private static int endOf(String name, String call) {
        switch (name) {
            case "letter": return 10;
            case "fish": return 6;
            case "writer": return 8;
            case "kind": return 7;
            case "word": return 10000;
            case "spot": return 10;
            case "s": case "t": return 4;
            case "what": return 8;
            case "which": return 7;
            case "i": case "from": case "to": return 12;
            case "n": return Arrays.asList("feed").contains(call) ? 5
                : Arrays.asList("go", "catches", "bonesFor", "copy").contains(call) ? 8
                : call.equals("sheet") ? 14 : 41;
            case "v": return call.equals("jar") ? 60 : call.equals("write") ? 4 : 22;
            default: return 1000;
        }
    }

    private int argument(String name, String call) {
        if (draw(40) == 0) {
            return EDGES[draw(EDGES.length)];
        }
        if (name.equals("bits")) {
            return new int[] {0, 8, 8, 8, 16, 16, 32, 32}[draw(8)];
        }
        if (name.equals("v") && draw(6) == 0) {
            return new int[] {-1, 99, 999, 9999, 3, 255, 65535, 1 << 20}[draw(8)];
        }
        return draw(endOf(name, call)) - (draw(60) == 0 ? 1 : 0);
    }

    private String someText() {
        StringBuilder s = new StringBuilder();
        for (int items = 1 + draw(5); items > 0; items--) {
            if (draw(12) == 0) {
                s.append(PIECES[draw(PIECES.length)]).append(PIECES[draw(PIECES.length)]);
            }
            int first = draw(9);
            if (first < 7) {
                s.append(PIECES[first]);
                s.append(draw(2) == 0 ? "" : " word " + draw(10050));
                s.append(draw(2) == 0 ? "" : " fat" + draw(101));
            } else if (first == 7) {
                s.append("fish ").append(draw(20) == 0 ? 6 : draw(6)).append(' ').append(draw(1002));
                s.append(draw(2) == 0 ? "" : "catch " + draw(22));
            } else {
                s.append(" jar").append(draw(20) == 0 ? 10 : draw(10)).append(" 0").append(draw(100));
            }
            s.append(items > 1 || draw(20) == 0 ? ";" : "");
        }
        return s.toString();
    }

    private static Object call(Object on, String name, Class<?>[] types, Object... args) throws Exception {
        Method m = on.getClass().getDeclaredMethod(name, types);
        try {
            return ((Number) m.invoke(on, args)).longValue();
        } catch (InvocationTargetException e) {
            if (on instanceof Model && e.getCause() instanceof Model.Finding) {
                return ((Model) on).answer((Model.Finding) e.getCause());
            }
            return e.getCause();
        }
    }

    private final List<String> log = new ArrayList<>();

    private boolean same(BoneWords words, Model model, String name, Class<?>[] types, Object... args) throws Exception {
        Object want = call(model, name, types, args);
        Object got = call(words, name, types, args);
        log.add(name + Arrays.toString(args) + " answered " + got + ", due is " + want);
        return want.equals(got);
    }

    private boolean feedText(BoneWords words, Model model, String text) throws Exception {
        Class<?>[] two = {int.class, int.class};
        boolean all = true;
        int n;
        for (int i = 0; i < text.length() && all; i += n) {
            n = Math.min(1 + draw(4), text.length() - i);
            int bytes = draw(1 << 30);
            for (int j = i; j < i + n; j++) {
                bytes = bytes << 8 | text.charAt(j);
            }
            all = same(words, model, "feed", two, bytes, n);
        }
        return all && same(words, model, "text", new Class<?>[0]);
    }

    /** The more there is on the reef the more the calls can tell apart. */
    private boolean furnish(BoneWords words, Model model) throws Exception {
        Class<?>[] two = {int.class, int.class};
        Class<?>[] three = {int.class, int.class, int.class};
        boolean all = true;
        for (int l = 0; l < 10; l++) {
            all &= same(words, model, "jar", two, l, draw(4) == 0 ? draw(1000) : draw(12));
        }
        for (int f = 0; f < 6; f++) {
            all &= same(words, model, "fish", three, f, 0, draw(1000));
            all &= same(words, model, "fish", three, f, 1, draw(21));
        }
        for (int w = draw(9); w > 0; w--) {
            all &= same(words, model, "writer", two, draw(7), draw(10000));
        }
        return all;
    }

    private boolean run(Method[] calls) throws Exception {
        BoneWords words = new BoneWords();
        Model model = new Model();
        boolean all = draw(5) == 0 || furnish(words, model);
        int heavy = 0;
        while (all && log.size() < CALLS) {
            if (draw(25) == 0) {
                all = feedText(words, model, someText());
                continue;
            }
            Method m = calls[draw(calls.length)];
            boolean dear = Arrays.asList("bonesFor", "texts", "away").contains(m.getName());
            if (dear && ++heavy > 6 || m.getName().equals("tear") && draw(3) > 0) {
                continue;
            }
            Parameter[] named = m.getParameters();
            Object[] args = new Object[named.length];
            for (int i = 0; i < args.length; i++) {
                args[i] = argument(named[i].getName(), m.getName());
            }
            all = same(words, model, m.getName(), m.getParameterTypes(), args);
        }
        return all;
    }

    public static void main(String[] args) throws Exception {
        Method[] calls = Arrays.stream(BoneWords.class.getDeclaredMethods())
            .filter(m -> Modifier.isPublic(m.getModifiers()))
            .sorted(Comparator.comparing(Method::getName)).toArray(Method[]::new);
        int failed = 0;
        for (int seed = 1; seed <= RUNS; seed++) {
            ModelTests run = new ModelTests(seed);
            if (!run.run(calls)) {
                failed++;
                System.out.println("run " + seed + ", call " + run.log.size() + ": " + run.log.get(run.log.size() - 1));
                if (failed == 1) {
                    run.log.forEach(System.out::println);
                }
            }
        }
        System.out.println("ModelTests: " + (RUNS - failed) + " passed, " + failed + " failed");
        System.exit(failed == 0 ? 0 : 1);
    }
}
