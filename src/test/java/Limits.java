import java.lang.reflect.Array;
import java.lang.reflect.Field;
import java.lang.reflect.InvocationTargetException;
import java.lang.reflect.Method;
import java.lang.reflect.Modifier;
import java.util.ArrayDeque;
import java.util.Arrays;
import java.util.Comparator;
import java.util.IdentityHashMap;
import java.util.Random;

/** Wild arguments in many states, the largest families: no call throws, and no call makes the object larger. */
public final class Limits {
    private static final int CALLS = 512;
    /** A seventh of the room of one run. */
    private static final long MOST_ELEMENTS = 1_000_000;
    private static final long MOST_OBJECTS = 200;

    private static int wrong = 0;

    public static void main(String[] args) throws Exception {
        Method[] methods = Arrays.stream(OnePassport.class.getDeclaredMethods())
            .filter(m -> Modifier.isPublic(m.getModifiers())).toArray(Method[]::new);
        Arrays.sort(methods, Comparator.comparing(Method::getName));
        face(methods);
        String post = "post strict 70 keen 1 looks 3;post strict 30 keen 9 looks 0;";
        String[] families = {
            "", "family loaf 1;", "family loaf 9 compare;" + post, "family loaf 3;person like 1 nose 1;person like 2 nose 2 child;",
            "family loaf 3;" + post + six(0), "family loaf 3 compare;" + post + six(0), "family loaf 9;" + post + six(1),
            "family loaf 1;" + post + six(2), "family loaf 5;" + post + six(3), "family loaf 5;" + post + six(6)};
        for (int run = 0; run < 120; run++) wild(methods, families[run % families.length], run);
        widest();
        System.out.println(wrong + " wrong");
        if (wrong != 0) System.exit(1);
    }

    private static String six(int children) {
        StringBuilder s = new StringBuilder();
        for (int i = 0; i < 6; i++) {
            s.append("person like ").append(17 * i).append(" nose ").append(i).append(i < children ? " child;" : ";");
        }
        return s.toString();
    }

    private static void wrong(String what) {
        wrong++;
        System.out.println(what);
    }

    private static void face(Method[] methods) {
        if (methods.length != 59) wrong("the face has " + methods.length + " methods");
        for (Method m : methods) {
            boolean wide = m.getName().equals("chance") || m.getName().equals("stamped");
            if (m.getReturnType() != (wide ? long.class : int.class)) wrong(m + " answers another type");
        }
    }

    private static void wild(Method[] methods, String family, int seed) throws Exception {
        Random r = new Random(seed);
        OnePassport x = new OnePassport();
        long[] before = measure(x);
        Tell.family(x, family);
        for (int i = 60; i < CALLS; i++) {
            Method m = methods[r.nextInt(methods.length)];
            if (m.getName().equals("family") && r.nextInt(8) > 0) continue;
            Object[] a = new Object[m.getParameterCount()];
            for (int k = 0; k < a.length; k++) {
                long v = any(r);
                a[k] = m.getParameterTypes()[k] == long.class ? (Object) v : (Object) (int) v;
            }
            try {
                m.invoke(x, a);
            } catch (InvocationTargetException e) {
                wrong("run " + seed + ": " + m.getName() + Arrays.toString(a) + " threw " + e.getCause());
            }
        }
        long[] after = measure(x);
        if (!Arrays.equals(before, after)) wrong("run " + seed + ": made " + Arrays.toString(before) + " larger: " + Arrays.toString(after));
        if (before[0] > MOST_OBJECTS || before[1] > MOST_ELEMENTS) wrong("an object has " + Arrays.toString(before));
    }

    private static long any(Random r) {
        int[] edges = {Integer.MIN_VALUE, Integer.MAX_VALUE, Integer.MIN_VALUE + 1, Integer.MAX_VALUE - 1, -1, -2, 600, 601, 60, 61,
            63, 64, 100, 101, 2000000000, 2000000001, 255, 256, -128, 65536};
        switch (r.nextInt(6)) {
            case 0: return edges[r.nextInt(edges.length)];
            case 1: return r.nextLong();
            case 2: return r.nextInt(220);
            default: return r.nextInt(7);
        }
    }

    /** All objects that hang on one, arrays too, and all their fields and elements. */
    private static long[] measure(Object root) throws Exception {
        IdentityHashMap<Object, Object> seen = new IdentityHashMap<>();
        ArrayDeque<Object> open = new ArrayDeque<>();
        open.add(root);
        seen.put(root, root);
        long elements = 0;
        while (!open.isEmpty()) {
            Object o = open.poll();
            if (o.getClass().isArray()) {
                elements += Array.getLength(o);
                if (!o.getClass().getComponentType().isPrimitive()) {
                    for (Object part : (Object[]) o) if (part != null && seen.put(part, part) == null) open.add(part);
                }
                continue;
            }
            for (Field f : o.getClass().getDeclaredFields()) {
                if (Modifier.isStatic(f.getModifiers())) continue;
                elements++;
                if (f.getType().isPrimitive()) continue;
                f.setAccessible(true);
                Object part = f.get(o);
                // Row holds the measure that was asked last: it hangs on the search anyhow.
                if (part != null && seen.put(part, part) == null) open.add(part);
            }
        }
        return new long[] {seen.size(), elements};
    }

    /** Families by which many states can be: every search comes to its end. */
    private static void widest() {
        Random r = new Random(7);
        for (int run = 0; run < 300; run++) {
            StringBuilder s = new StringBuilder("family loaf " + (1 + r.nextInt(9)) + ";");
            s.append("post strict 47 keen ").append(r.nextInt(5)).append(" looks ").append(r.nextInt(4)).append(";post strict 0 keen ")
                .append(r.nextInt(5)).append(" looks 0;");
            int children = r.nextInt(4);
            for (int i = 0; i < 6; i++) {
                s.append("person like ").append(r.nextInt(101)).append(" nose ").append(r.nextInt(10))
                    .append(i < children ? " child;" : r.nextInt(3) == 0 ? " stays;" : ";");
            }
            OnePassport x = Tell.told(s.toString());
            int days = x.days();
            int hopeful = x.hopeful();
            if (hopeful > x.states()) wrong("more hope than states");
            if ((days == OnePassport.NONE) != (x.surest() == OnePassport.NONE)) wrong("days and surest differ");
            if (days != x.till(63 & ~staying(x))) wrong("days and till differ");
            if (days != OnePassport.NONE && hopeful == 0) wrong("the end comes without hope");
            if (x.slowly() < days || x.crossings() > x.moves()) wrong("the surest is too fast");
            x.whom(9);
            x.blur(0);
            x.looks(0);
        }
    }

    private static int staying(OnePassport x) {
        int bits = 0;
        for (int i = 0; i < 6; i++) bits |= x.person(i, 3) << i;
        return bits;
    }
}
