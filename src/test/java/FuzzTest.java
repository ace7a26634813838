import java.lang.reflect.InvocationTargetException;
import java.lang.reflect.Method;
import java.lang.reflect.Modifier;
import java.util.ArrayList;
import java.util.Comparator;
import java.util.List;
import java.util.Random;

/** Whatever is asked of whatever sky, no call throws, and the same calls give the same answers. */
public final class FuzzTest {
    private static final int[] EDGES = {0, 1, -1, 2, 3, 7, 8, 20, 40, 41, 60, 61, 100, 127, 128, 255, 256, 1600, 2000000000,
        2000000001, Integer.MAX_VALUE, Integer.MIN_VALUE, -2, -2000000000};
    private static final List<Method> FACE = face();

    public static void main(String[] args) throws IllegalAccessException {
        Due d = new Due("FuzzTest");
        int runs = args.length > 0 ? Integer.parseInt(args[0]) : 60;
        for (int run = 0; run < runs && d.wrong() == 0; run++) {
            List<Long> first = run(d, run);
            List<Long> second = run(d, run);
            d.due("run " + run + " once more", first.equals(second) ? 1 : 0, 1);
        }
        d.finish();
    }

    private static List<Method> face() {
        List<Method> face = new ArrayList<>();
        for (Method m : LastCloud.class.getDeclaredMethods()) {
            if (Modifier.isPublic(m.getModifiers())) {
                face.add(m);
            }
        }
        face.sort(Comparator.comparing(Method::getName));
        return face;
    }

    private static List<Long> run(Due d, int seed) throws IllegalAccessException {
        Random random = new Random(seed);
        LastCloud x = new LastCloud();
        List<Long> answers = new ArrayList<>();
        for (int call = 0; call < 512; call++) {
            if (call % 64 == 0 && x.count(7) == 0) {
                Skies.feed(x, text(random));
                answers.add((long) x.sky());
            }
            Method m = FACE.get(random.nextInt(FACE.size()));
            Object[] told = arguments(m, random);
            try {
                answers.add(((Number) m.invoke(x, told)).longValue());
            } catch (InvocationTargetException e) {
                d.due("run " + seed + " call " + call + " " + m.getName() + java.util.Arrays.toString(told) + " threw "
                    + e.getCause(), 1, 0);
                return answers;
            }
        }
        return answers;
    }

    private static Object[] arguments(Method m, Random random) {
        Class<?>[] types = m.getParameterTypes();
        Object[] told = new Object[types.length];
        for (int i = 0; i < types.length; i++) {
            if (types[i] == boolean.class) {
                told[i] = random.nextBoolean();
            } else if (types[i] == long.class) {
                told[i] = random.nextInt(3) == 0 ? random.nextLong() : (long) number(random);
            } else {
                told[i] = number(random);
            }
        }
        return told;
    }

    private static int number(Random random) {
        int kind = random.nextInt(8);
        if (kind == 0) {
            return EDGES[random.nextInt(EDGES.length)];
        }
        if (kind == 1) {
            return random.nextInt();
        }
        return random.nextInt(kind < 6 ? 4 : 45);
    }

    private static String text(Random random) {
        String text = new RandomSky(random.nextInt(100000)).text;
        if (random.nextInt(3) != 0) {
            return text;
        }
        StringBuilder broken = new StringBuilder(text);
        for (int i = random.nextInt(4); i >= 0 && broken.length() > 0; i--) {
            int at = random.nextInt(broken.length());
            switch (random.nextInt(4)) {
                case 0:
                    broken.setCharAt(at, (char) random.nextInt(256));
                    break;
                case 1:
                    broken.deleteCharAt(at);
                    break;
                case 2:
                    broken.insert(at, (char) ('0' + random.nextInt(10)));
                    break;
                default:
                    broken.setLength(at);
                    break;
            }
        }
        return broken.toString();
    }
}
