import java.lang.reflect.InvocationTargetException;
import java.lang.reflect.Method;
import java.lang.reflect.Modifier;
import java.util.ArrayList;
import java.util.Comparator;
import java.util.List;
import java.util.Random;

/** Long runs of calls, the same each time, on a RosettePlate and on a NaivePlate, whose answers must be the same. */
public final class RandomRunsTest {
    private static final int RUNS = 120;
    private static final int CALLS = 511;
    private static final int[] EDGES = {-1, 0, 1, 2, 3, 4, 5, 6, 7, 8, 9, 11, 12, 20, 21, 24, 60, 61, 95, 96, 97, 300,
        301, Integer.MIN_VALUE, Integer.MAX_VALUE};
    private static final long[] LONG_EDGES = {-1, 0, Long.MIN_VALUE, Long.MAX_VALUE, 99999, 100000, 9999999999L,
        10000000000L, 999999999999999L, 1000000000000000L};
    private static final String[] OFTEN = {"addLayer", "addLayer", "addLayer", "change", "see", "see"};

    private final Checks checks = new Checks();
    private final List<Method> methods = methods();
    private Random random;
    private RosettePlate plate;
    private NaivePlate naive;
    private String pending = "";
    private String due = "";

    public static void main(String[] args) {
        RandomRunsTest test = new RandomRunsTest();
        for (int run = 0; run < RUNS; run++) {
            test.run(run);
        }
        test.checks.close();
    }

    private static List<Method> methods() {
        List<Method> found = new ArrayList<>();
        for (Method method : RosettePlate.class.getDeclaredMethods()) {
            if (Modifier.isPublic(method.getModifiers())) {
                found.add(method);
            }
        }
        found.sort(Comparator.comparing(Method::getName));
        return found;
    }

    private void run(int seed) {
        random = new Random(seed);
        plate = new RosettePlate();
        naive = new NaivePlate();
        pending = "";
        due = "";
        for (int call = 0; call < CALLS; call++) {
            Method method = pick();
            Object[] values = arguments(method);
            String got = outcome(plate, method.getName(), method.getParameterTypes(), values);
            String want = outcome(naive, method.getName(), method.getParameterTypes(), values);
            checks.same("run " + seed + " call " + call + " " + method.getName() + List.of(values), got, want);
        }
    }

    /** A text that has been begun is mostly written to its end and looked at, so that load has something to load. */
    private Method pick() {
        String name = due;
        due = "";
        if (name.isEmpty() && !pending.isEmpty() && random.nextInt(12) > 0) {
            name = "append";
        } else if (name.isEmpty() && random.nextInt(3) == 0) {
            name = OFTEN[random.nextInt(OFTEN.length)];
        }
        Method method = named(name);
        if (method == null) {
            method = methods.get(random.nextInt(methods.size()));
        }
        if (method.getName().equals("clearText")) {
            pending = plateText();
        } else if (method.getName().equals("append") && pending.isEmpty()) {
            due = "errorPosition";
        } else if (method.getName().equals("errorPosition")) {
            due = random.nextInt(3) == 0 ? "load" : random.nextBoolean() ? "clearText" : "";
        }
        return method;
    }

    private Method named(String name) {
        for (Method method : methods) {
            if (method.getName().equals(name)) {
                return method;
            }
        }
        return null;
    }

    private static String outcome(Object target, String name, Class<?>[] types, Object[] values) {
        try {
            return String.valueOf(target.getClass().getMethod(name, types).invoke(target, values));
        } catch (InvocationTargetException e) {
            return e.getCause().getClass().getName();
        } catch (ReflectiveOperationException e) {
            return e.toString();
        }
    }

    private Object[] arguments(Method method) {
        Class<?>[] types = method.getParameterTypes();
        Object[] values = new Object[types.length];
        boolean wild = random.nextInt(15) == 0;
        for (int i = 0; i < values.length; i++) {
            boolean wide = types[i] == long.class;
            values[i] = wide ? (Object) longFor(method.getName(), wild) : (Object) intFor(method.getName(), i, wild);
        }
        return values;
    }

    private long longFor(String name, boolean wild) {
        if (wild) {
            return LONG_EDGES[random.nextInt(LONG_EDGES.length)];
        }
        switch (name) {
            case "runScript":
                return script();
            case "pen":
                return random.nextLong() >>> (1 + random.nextInt(62));
            default:
                return random.nextLong();
        }
    }

    private long script() {
        long script = 0;
        int groups = 1 + random.nextInt(3);
        for (int i = 0; i < groups; i++) {
            script = 100000 * script + group();
        }
        return script;
    }

    private long group() {
        int kind = random.nextInt(10);
        int l = random.nextInt(4);
        int m = random.nextInt(4);
        int last = random.nextInt(10) == 0 ? random.nextInt(100) : random.nextInt(25);
        switch (kind) {
            case 2:
            case 8:
                return 10000 * kind + 1000 * l + (random.nextInt(6) == 0 ? last : 0);
            case 3:
                return 30000 + (random.nextInt(8) == 0 ? 100 * m : 0) + random.nextInt(100);
            case 4:
                return 40000 + random.nextInt(2) * 1000 + random.nextInt(700);
            case 6:
            case 9:
                return 10000 * kind + 1000 * l + (random.nextInt(8) == 0 ? 100 * m : 0) + last;
            default:
                return 10000 * kind + 1000 * l + 100 * m + last;
        }
    }

    private int intFor(String name, int i, boolean wild) {
        if (wild) {
            return EDGES[random.nextInt(EDGES.length)];
        }
        int ring = naive.about(0);
        switch (name) {
            case "append":
                return nextCharacter();
            case "about":
                return random.nextInt(7);
            case "layer":
                return random.nextInt(i == 0 ? 4 : 10);
            case "comes":
                return i == 0 ? random.nextInt(4) : i == 1 ? random.nextInt(ring) : radius();
            case "at":
                return radius();
            case "sighting":
                return random.nextInt(3);
            case "setRing":
                return random.nextInt(4) == 0 ? 12 + random.nextInt(85) : 12 * (1 + random.nextInt(8));
            case "addLayer":
                return layerNumber(i, ring);
            case "change":
                return i == 0 ? random.nextInt(4) : i == 1 ? lastWhat = random.nextInt(4) : layerNumber(lastWhat, ring);
            case "see":
                return i == 0 ? point() / 1000 : lastPoint % 1000;
            case "wheels":
                return i == 3 ? random.nextInt(3) : layerNumber(i + 1, ring);
            case "wheelFor":
                return 1 + random.nextInt(60);
            case "runScript":
                return 1 + random.nextInt(3);
            case "simulate":
                return 1 + random.nextInt(200);
            case "save":
            case "restore":
                return random.nextInt(2);
            default:
                return random.nextInt(4);
        }
    }

    private int lastWhat;
    private int lastPoint;

    /** Mostly a number that a layer has already, so that rosettes are alike. */
    private int layerNumber(int what, int ring) {
        int layers = naive.about(1);
        if (layers > 0 && what <= 3 && random.nextInt(4) < (what == 3 ? 2 : 3)) {
            return naive.layer(random.nextInt(layers), what);
        }
        switch (what) {
            case 0:
                return random.nextBoolean() ? 5 + random.nextInt(56) : 6 * (1 + random.nextInt(10));
            case 1:
                return random.nextInt(2);
            case 2:
                return random.nextInt(3) == 0 ? 0 : random.nextInt(21);
            default:
                return random.nextInt(ring);
        }
    }

    private int radius() {
        return random.nextInt(20) == 0 ? random.nextInt(301) : point() % 1000;
    }

    /** Mostly a point of the layer 0, so that some sightings fit. */
    private int point() {
        boolean any = naive.about(1) == 0 || random.nextInt(8) == 0;
        lastPoint = any ? 1000 * random.nextInt(naive.about(0)) + 150 + random.nextInt(100)
            : naive.pen(random.nextInt(6) == 0 ? naive.about(1) - 1 : 0, random.nextInt(2000));
        return lastPoint;
    }

    private int nextCharacter() {
        char c = pending.isEmpty() ? 's' : pending.charAt(0);
        pending = pending.isEmpty() ? "" : pending.substring(1);
        return random.nextInt(80) == 0 ? "0123456789Eios x".charAt(random.nextInt(16)) : c;
    }

    private String plateText() {
        int ring = 12 + random.nextInt(85);
        StringBuilder text = new StringBuilder("E" + ring);
        int parts = random.nextInt(5) == 0 ? random.nextInt(15) : random.nextInt(4);
        for (int i = 0; i < parts; i++) {
            if (random.nextInt(3) > 0) {
                text.append(random.nextBoolean() ? 'i' : 'o');
                text.append(String.format("%02d%02d%02d", layerNumber(0, ring), random.nextInt(21), random.nextInt(ring)));
            } else {
                text.append(String.format("s%02d%03d", random.nextInt(ring), random.nextInt(301)));
            }
        }
        return text.toString();
    }
}
