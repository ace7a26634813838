import java.lang.reflect.InvocationTargetException;
import java.lang.reflect.Method;
import java.util.Arrays;
import java.util.HashMap;
import java.util.List;
import java.util.Map;
import java.util.Random;

/** Runs of drawn calls of the whole face on one object, each answer compared with the Oracle's. */
public final class RunTest {
    /** Each method and what its arguments are. */
    private static final String[] FACE = {"feed any any any any any", "end size", "sky", "fault what",
        "periods leg flag speed flag", "loss leg flag speed flag", "climb place flag", "chance place", "sight place sort",
        "unsee few", "sign place flag", "reach place height place flag", "fields place height flag", "edge place flag",
        "fast up", "average up", "farthest", "worth rule place height period flag flag",
        "deed rule place height period flag flag", "home rule place height period flag flag", "start rule", "cost rule",
        "leave place period flag", "on place period flag", "last place height", "weak place height period", "ends rule flag",
        "tour place height flag", "street", "share place", "known place", "hawk place", "water", "drop", "fly rule seed",
        "flown few what", "landed what", "judge slot seed", "flights rule seed n", "sum rule seed n", "spread rule seed n what",
        "soon", "way few", "soonest set", "key", "count count", "keep image", "back image", "row slot sort length",
        "write slot few value", "paste slot few slot few few"};
    private static final int[] WRONG = {-1, -2, 3, 4, 5, 8, 10, 41, 61, 256, 2001, 2000000001, Integer.MAX_VALUE,
        Integer.MIN_VALUE};

    private final Due d;
    private final Random random;
    private final long seed;
    private final LastCloud x = new LastCloud();
    private final Oracle oracle = new Oracle();
    private int calls;

    private RunTest(Due d, long seed) {
        this.d = d;
        this.seed = seed;
        random = new Random(seed);
    }

    public static void main(String[] args) throws ReflectiveOperationException {
        long from = args.length > 0 ? Long.parseLong(args[0]) : 0;
        long runs = args.length > 1 ? Long.parseLong(args[1]) : 80;
        Due d = new Due("RunTest");
        for (long seed = from; seed < from + runs && d.wrong() == 0; seed++) {
            new RunTest(d, seed).run();
        }
        d.finish();
    }

    private void run() throws ReflectiveOperationException {
        while (calls < 480 && d.wrong() == 0) {
            int kind = random.nextInt(120);
            if (kind == 0 || calls == 0 && random.nextInt(8) != 0) {
                tellSky();
            } else if (kind == 1) {
                tellRow();
            } else {
                String[] face = FACE[random.nextInt(FACE.length)].split(" ");
                // garbage on the tape and a sky of it are rare, or the run would have no sky at all
                boolean spoils = face[0].equals("feed") || face[0].equals("sky");
                if (!spoils || random.nextInt(12) == 0) {
                    call(face);
                }
            }
        }
    }

    // ---- one call ----

    private static final Map<String, Method[]> METHODS = methods();

    private static Map<String, Method[]> methods() {
        Map<String, Method[]> found = new HashMap<>();
        for (Method real : LastCloud.class.getDeclaredMethods()) {
            for (Method due : Oracle.class.getDeclaredMethods()) {
                if (real.getName().equals(due.getName())
                    && Arrays.equals(real.getParameterTypes(), due.getParameterTypes())) {
                    found.put(real.getName(), new Method[] {real, due});
                }
            }
        }
        return found;
    }

    private void call(String[] face) throws ReflectiveOperationException {
        Object[] told = new Object[face.length - 1];
        for (int i = 0; i < told.length; i++) {
            told[i] = draw(face[i + 1]);
        }
        ask(face[0], told);
    }

    private void ask(String name, Object... told) throws ReflectiveOperationException {
        Method[] both = METHODS.get(name);
        calls++;
        String call = "run " + seed + " call " + calls + " " + name + Arrays.toString(told);
        try {
            d.due(call, (Integer) both[0].invoke(x, told), (Integer) both[1].invoke(oracle, told));
        } catch (InvocationTargetException e) {
            d.due(call + " threw " + e.getCause(), 1, 0);
        }
    }

    private Object draw(String kind) {
        switch (kind) {
            case "flag":
                return random.nextBoolean();
            case "any":
                return random.nextInt();
            case "value":
                return random.nextInt(3) == 0 ? random.nextLong() : deed();
            default:
                return random.nextInt(15) == 0 ? WRONG[random.nextInt(WRONG.length)] : number(kind);
        }
    }

    private int number(String kind) {
        Model m = oracle.model();
        switch (kind) {
            case "size":
                return random.nextInt(oracle.count(7) + 1);
            case "leg":
                return random.nextInt(m.legs.size() + 1);
            case "speed":
                return random.nextInt(m.speeds.size() + 1);
            case "place":
                return random.nextInt(8) == 0 ? m.places.size() : random.nextInt(Math.max(1, m.places.size()));
            case "height":
                return random.nextInt(5) == 0 ? random.nextInt(62) : random.nextInt(m.ceiling + 1);
            case "period":
                return random.nextInt(8) == 0 ? m.last + random.nextInt(2) : random.nextInt(1 + m.last / 2);
            case "rule":
            case "sort":
            case "slot":
                return random.nextInt(4);
            case "few":
                return random.nextInt(6);
            case "what":
                return random.nextInt(6);
            case "count":
                return random.nextInt(12);
            case "up":
                return random.nextInt(4) == 0 ? new int[] {0, 1, 2000, 2001}[random.nextInt(4)] : random.nextInt(900);
            case "seed":
                return random.nextInt(10) == 0 ? 2000000000 * random.nextInt(2) : random.nextInt(2000000001);
            case "n":
                return random.nextInt(10) == 0 ? 40 : random.nextInt(6);
            case "set":
                return random.nextInt(m.allPlaces() + 2);
            case "image":
                return random.nextInt(3);
            default:
                return random.nextInt(12);
        }
    }

    private long deed() {
        long[] some = {-1, 0, 1, 2, 99, 106, 200, 1L << 32, (1L << 32) - 1, -2};
        return random.nextInt(3) == 0 ? some[random.nextInt(some.length)] : 100 + random.nextInt(100);
    }

    // ---- several calls ----

    /** The deeds of a flight, most of them as they are, as a row that is judged, as it is and in parts. */
    private void tellRow() throws ReflectiveOperationException {
        if (oracle.start(0) == -2000000000) {
            return;
        }
        int by = random.nextInt(2000000001);
        int slot = random.nextInt(4);
        int other = random.nextInt(4);
        int width = 1 + random.nextInt(3);
        List<int[]> like = oracle.model().fly(random.nextInt(4), by);
        int size = like.size() + random.nextInt(3);
        ask("row", other, width, size);
        ask("row", slot, width, size);
        for (int i = 0; i < like.size() - 1; i++) {
            ask("write", slot, i, random.nextInt(6) == 0 ? deed() : like.get(i)[0]);
        }
        ask("judge", slot, by);
        int part = random.nextInt(size);
        ask("paste", slot, 0, other, 0, part);
        ask("judge", other, by);
        ask("paste", slot, part, other, part, size - part);
        ask("judge", other, by);
        ask("paste", slot, 0, slot, 1, size - 1);
        ask("paste", slot, 1, slot, 0, size - 1);
        ask("judge", slot, by);
    }

    private void tellSky() throws ReflectiveOperationException {
        String text = new RandomSky(random.nextInt(1000000)).text;
        if (random.nextInt(4) == 0) {
            text = new Spoiler(random).spoil(text);
        }
        byte[] bytes = text.getBytes(java.nio.charset.StandardCharsets.ISO_8859_1);
        ask("end", 0);
        for (int i = 0; i < bytes.length; i += 20) {
            java.nio.ByteBuffer five = java.nio.ByteBuffer.wrap(Arrays.copyOf(Arrays.copyOfRange(bytes, i, i + 20), 20));
            ask("feed", five.getInt(), five.getInt(), five.getInt(), five.getInt(), five.getInt());
        }
        ask("end", bytes.length);
        ask("sky");
        ask("fault", 0);
        ask("fault", 1);
    }
}
