import java.lang.reflect.Method;
import java.lang.reflect.Modifier;
import java.util.ArrayList;
import java.util.Comparator;
import java.util.List;
import java.util.Random;

/** Runs of 512 calls, drawn by fixed seeds, each held against the model; the faults of texts held against the grammar. */
public final class ModelTest {
    private static final int RUNS = 200, CALLS = 512, TEXTS = 5000;
    private static final int[] EDGES = {Integer.MIN_VALUE, -1000, 61, 100, 128, 9999, Integer.MAX_VALUE - 1, Integer.MAX_VALUE};

    public static void main(String[] args) throws ReflectiveOperationException {
        List<Method> methods = new ArrayList<>();
        for (Method one : LargeBubble.class.getDeclaredMethods()) {
            if (Modifier.isPublic(one.getModifiers())) methods.add(one);
        }
        methods.sort(Comparator.comparing(Method::getName));
        Due.due("methods", methods.size(), 36);
        for (int seed = 1; seed <= RUNS; seed++) run(seed, methods);
        Random random = new Random(7);
        for (int i = 0; i < TEXTS; i++) fault(text(random));
        Due.end();
    }

    private static void run(int seed, List<Method> methods) throws ReflectiveOperationException {
        Random random = new Random(seed);
        LargeBubble x = new LargeBubble();
        Model model = new Model();
        int calls = 0;
        while (calls < CALLS) {
            int sort = random.nextInt(100);
            if (sort < 2) {
                String text = text(random);
                for (int i = 0; i < text.length() && calls < CALLS - 1; i++, calls++) {
                    both(seed, x, model, find(methods, "feed"), new int[] {text.charAt(i)}, 0);
                }
                both(seed, x, model, find(methods, "square"), new int[0], 0);
            } else if (sort < 12) {
                int[] blower = {random.nextInt(7), random.nextInt(10), random.nextInt(9) + 1, random.nextInt(60) + 1};
                both(seed, x, model, find(methods, "blower"), blower, 0);
            } else {
                Method method = methods.get(random.nextInt(methods.size()));
                boolean ends = method.getName().equals("undo") || method.getName().equals("square");
                if (!ends || random.nextInt(3) == 0) {
                    long v = random.nextBoolean() ? random.nextInt(2) : random.nextLong();
                    both(seed, x, model, method, arguments(random, seed), v);
                }
            }
            calls++;
        }
    }

    private static Method find(List<Method> methods, String name) {
        for (Method one : methods) if (one.getName().equals(name)) return one;
        throw new IllegalArgumentException(name);
    }

    private static int[] arguments(Random random, int seed) {
        int[] a = new int[5];
        int[] bounds = {3, 6, 12, 25, 62};
        for (int i = 0; i < a.length; i++) {
            int bound = bounds[random.nextInt(i == 0 ? 3 : bounds.length)];
            a[i] = random.nextInt(bound) - (random.nextInt(8) == 0 ? 2 : 0);
            if (seed % 4 == 0 && random.nextInt(9) == 0) a[i] = EDGES[random.nextInt(EDGES.length)];
        }
        return a;
    }

    private static void both(int seed, LargeBubble x, Model model, Method method, int[] a, long v)
            throws ReflectiveOperationException {
        Class<?>[] types = method.getParameterTypes();
        Object[] arguments = new Object[types.length];
        StringBuilder call = new StringBuilder("seed " + seed + ": " + method.getName());
        for (int i = 0; i < types.length; i++) {
            arguments[i] = types[i] == long.class ? (Object) v : types[i] == boolean.class ? (Object) (v != 0) : (Object) a[i];
            call.append(i == 0 ? "(" : ", ").append(arguments[i]);
        }
        long got = ((Number) method.invoke(x, arguments)).longValue();
        Due.due(call.toString(), got, model.call(method.getName(), a, v));
    }

    private static void fault(String text) {
        LargeBubble x = new LargeBubble();
        int fault = Grammar.fault(text);
        Due.due("fault of " + text, Due.square(x, text), fault < 0 ? 0 : -10 - fault);
    }

    /** A square, of which in three of four a sign is another, is missing, or came on top. */
    private static String text(Random random) {
        StringBuilder out = new StringBuilder();
        int clauses = random.nextInt(9) == 0 ? 9 + random.nextInt(3) : 1 + random.nextInt(4);
        for (int i = 0; i < clauses; i++) {
            if (i > 0) out.append(';');
            String word = new String[] {"wind", "dry", "coin"}[random.nextInt(3)];
            int most = word.equals("wind") ? 6 : random.nextInt(5) == 0 ? 99 : 9;
            out.append(word).append(' ').append(random.nextInt(most + 1)).append(' ');
            if (clauses > 8) out.append("m>").append(random.nextInt(10));
            else either(random, out, 0);
        }
        if (random.nextInt(4) != 0) {
            String signs = "bkvmsf<=>01 ;|&!()wdcx";
            int at = random.nextInt(out.length());
            char sign = signs.charAt(random.nextInt(signs.length()));
            int how = random.nextInt(6);
            if (how == 0) out.setCharAt(at, sign);
            if (how == 1) out.deleteCharAt(at);
            if (how == 2) out.insert(at, sign);
            if (how == 3) out.append(sign);
        }
        if (out.length() > 100) out.setLength(100);
        return out.toString();
    }

    private static void either(Random random, StringBuilder out, int depth) {
        part(random, out, depth);
        while (random.nextInt(3) == 0) {
            out.append(random.nextBoolean() ? '|' : '&');
            part(random, out, depth);
        }
    }

    private static void part(Random random, StringBuilder out, int depth) {
        int sort = random.nextInt(6);
        boolean allowed = depth < 4 || random.nextInt(30) == 0;
        if (sort == 0 && allowed) {
            out.append('!');
            part(random, out, depth + 1);
        } else if (sort < 3 && allowed && depth < 6) {
            out.append('(');
            either(random, out, depth + 1);
            out.append(')');
        } else {
            int letter = random.nextInt(6);
            int[] bounds = {5, 7, 10, 12, 7, 28};
            out.append("bkvmsf".charAt(letter)).append("<=>".charAt(random.nextInt(3)));
            out.append(random.nextInt(bounds[letter]));
        }
    }
}
