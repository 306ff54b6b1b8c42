import java.lang.reflect.InvocationTargetException;
import java.lang.reflect.Method;
import java.util.ArrayList;
import java.util.Arrays;
import java.util.Comparator;
import java.util.List;
import java.util.Random;

/** Long random runs, each call on a works and on the model; both must answer, or throw, the same. */
public final class ModelTest {
    private static final int RUNS = 400;
    private static final int CALLS = 512;
    private static final int[] EDGES = {
        Integer.MIN_VALUE, Integer.MAX_VALUE, -32769, -32768, 32767, 32768, 8191, 8192, -8191, -8192, -1, 0, 1, 99999, 100000, 7681, 257
    };
    private static final int[] LENGTHS = {2, 3, 4, 5, 6, 8, 10, 12, 15, 16, 20, 24, 30, 32, 40, 48, 60, 64};

    private final Check check = new Check("ModelTest");
    private final List<Method> methods = new ArrayList<>();
    private final Random random;

    private ModelTest(long seed) {
        random = new Random(seed);
        for (Method method : Butterflyworks.class.getDeclaredMethods()) {
            if (java.lang.reflect.Modifier.isPublic(method.getModifiers())) {
                methods.add(method);
            }
        }
        methods.sort(Comparator.comparing(Method::getName));
    }

    public static void main(String[] args) throws Exception {
        ModelTest test = new ModelTest(args.length > 0 ? Long.parseLong(args[0]) : 20261119);
        for (int run = 0; run < RUNS; run++) {
            test.run(run);
        }
        test.check.end();
    }

    private void run(int run) throws Exception {
        Butterflyworks works = new Butterflyworks();
        Model model = new Model();
        // Each run has a few calls that it likes, so that rows, plans and measures grow long in some.
        List<Method> liked = new ArrayList<>();
        for (int i = 0; i < 6; i++) {
            liked.add(methods.get(random.nextInt(methods.size())));
        }
        boolean isWild = random.nextInt(4) == 0;
        int used = 0;
        while (used < CALLS) {
            List<Method> source = random.nextBoolean() ? liked : methods;
            Method method = source.get(random.nextInt(source.size()));
            if (method.getName().equals("type") && random.nextBoolean()) {
                int length = random.nextInt(3) == 0 ? 1 + random.nextInt(64) : LENGTHS[random.nextInt(LENGTHS.length)];
                Method wipe = Butterflyworks.class.getMethod("wipe");
                used += compare(run, works, model, wipe, new Object[0]);
                int span = random.nextBoolean() ? 20 : 100000;
                for (int i = 0; i < length && used < CALLS; i++) {
                    used += compare(run, works, model, method, new Object[] {random.nextInt(span) - span / 2});
                }
                continue;
            }
            used += compare(run, works, model, method, arguments(method, isWild));
        }
    }

    private Object[] arguments(Method method, boolean isWild) {
        Class<?>[] types = method.getParameterTypes();
        Object[] made = new Object[types.length];
        for (int i = 0; i < types.length; i++) {
            if (types[i] == boolean.class) {
                made[i] = random.nextBoolean();
            } else if (types[i] == char.class) {
                made[i] = letter(method.getName());
            } else {
                made[i] = isWild && random.nextInt(4) == 0 ? EDGES[random.nextInt(EDGES.length)] : number(method.getName(), i);
            }
        }
        return made;
    }

    private char letter(String name) {
        if (random.nextInt(20) == 0) {
            return (char) random.nextInt(random.nextBoolean() ? 128 : 65536);
        }
        String letters = name.equals("set") || name.equals("measure") ? "dcgrb"
            : name.equals("node") ? "nrad" : name.equals("figure") ? "pscd" : "olr";
        return letters.charAt(random.nextInt(letters.length()));
    }

    private int number(String name, int place) {
        boolean isGroundFirst = List.of("root", "unit", "plain", "done", "grid", "around", "fits", "search", "searchMeasured", "ways")
            .contains(name);
        if (isGroundFirst && place == 0) {
            return random.nextInt(12) == 0 ? random.nextInt(7) - 1 : random.nextInt(5);
        }
        switch (name) {
            case "type": return random.nextBoolean() ? random.nextInt(20) : random.nextInt(70000) - 35000;
            case "digit": return random.nextInt(20) == 0 ? random.nextInt(14) - 2 : random.nextInt(10);
            case "program": case "out": return random.nextInt(10);
            case "step": return place == 0 ? random.nextInt(10) : random.nextInt(90) - 1;
            case "node": return place == 0 ? length() : random.nextInt(14) - 1;
            case "measure": return place == 0 ? length() : place == 3 ? random.nextInt(120) : small();
            case "set": return place == 0 ? length() : small();
            case "cycles": return random.nextInt(16);
            case "fixedAt": return random.nextInt(34) - 1;
            case "product": return random.nextInt(50) - 1;
            default: return length();
        }
    }

    private int small() {
        return random.nextInt(4) == 0 ? random.nextInt(34) - 1 : 2 + random.nextInt(7);
    }

    private int length() {
        return random.nextInt(4) == 0 ? random.nextInt(68) - 2 : LENGTHS[random.nextInt(LENGTHS.length)];
    }

    private int compare(int run, Butterflyworks works, Model model, Method method, Object[] arguments) throws Exception {
        Method twin = Model.class.getMethod(method.getName(), method.getParameterTypes());
        check.due("run " + run + ", " + method.getName() + Arrays.toString(arguments), outcome(method, works, arguments),
            outcome(twin, model, arguments));
        return 1;
    }

    private static Object outcome(Method method, Object target, Object[] arguments) throws Exception {
        try {
            return method.invoke(target, arguments);
        } catch (InvocationTargetException e) {
            return e.getCause().getClass().getName();
        }
    }
}
