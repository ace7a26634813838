import java.util.ArrayList;
import java.util.Arrays;
import java.util.List;

/** The document's face once more: every promise answered from the Model, the TextModel and plain lists. */
final class Oracle {
    private static final int NOTHING = -2000000000;

    /** A SKY and its SIGHTS. */
    private static final class Image {
        private final Model model;
        private final int lines;
        private final List<int[]> sights;

        private Image(Model model, int lines) {
            this.model = model;
            this.lines = lines;
            sights = new ArrayList<>(model.sights);
        }
    }

    private byte[] tape = {};
    private int fault;
    private int faultPlace = -1;
    private Model m = new Model();
    private int lines;
    private final Image[] images = new Image[3];
    private final long[][] rows = new long[4][];
    private final int[] widths = new int[4];
    private List<int[]> latest = new ArrayList<>();

    Model model() {
        return m;
    }

    private boolean isPlace(int place) {
        return place >= 0 && place < m.places.size();
    }

    private static boolean isRule(int rule) {
        return rule >= 0 && rule <= 3;
    }

    private boolean noStart() {
        return m.startPlace == Model.NONE;
    }

    // ---- promises 2 to 5 ----

    int feed(int a, int b, int c, int d, int e) {
        if (tape.length > 1580) {
            return -1;
        }
        byte[] longer = Arrays.copyOf(tape, tape.length + 20);
        java.nio.ByteBuffer.wrap(longer, tape.length, 20).putInt(a).putInt(b).putInt(c).putInt(d).putInt(e);
        tape = longer;
        return tape.length;
    }

    int end(int n) {
        if (n < 0 || n > tape.length) {
            return -1;
        }
        tape = Arrays.copyOf(tape, n);
        return n;
    }

    int sky() {
        TextModel text = new TextModel(tape);
        tape = new byte[0];
        fault = text.fault;
        faultPlace = text.faultPlace;
        if (fault != 0) {
            return -4;
        }
        m = text.model;
        lines = text.lines;
        return lines;
    }

    int fault(int what) {
        return what == 0 ? fault : what == 1 ? faultPlace : -1;
    }

    // ---- promises 6 to 12 ----

    private boolean isFlown(int leg, int speed) {
        return leg >= 0 && leg < m.legs.size() && speed >= 0 && speed < m.speeds.size();
    }

    int periods(int leg, boolean back, int speed, boolean wet) {
        return isFlown(leg, speed) ? m.takes(leg, back, speed, wet) : -2;
    }

    int loss(int leg, boolean back, int speed, boolean wet) {
        return isFlown(leg, speed) ? m.loses(leg, back, speed, wet) : NOTHING;
    }

    int climb(int place, boolean wet) {
        return isPlace(place) ? m.wins(place, wet) : -2;
    }

    int chance(int place) {
        return isPlace(place) ? m.chance(place) : -2;
    }

    int sight(int place, int sort) {
        if (!isPlace(place) || sort < 0 || sort > 3) {
            return -2;
        }
        if (m.sights.size() == 20) {
            return -3;
        }
        m.sights.add(new int[] {place, sort});
        m.forget();
        return m.sights.size();
    }

    int unsee(int n) {
        if (n < 0 || n > m.sights.size()) {
            return -2;
        }
        for (int i = 0; i < n; i++) {
            m.sights.remove(m.sights.size() - 1);
        }
        m.forget();
        return m.sights.size();
    }

    int sign(int place, boolean seen) {
        return isPlace(place) ? m.bySign(m.toldChance(place), place, seen, 10000) : -2;
    }

    // ---- promises 13 to 18, 29, 30 ----

    private boolean isSpot(int place, int height) {
        return m.isState(place, height, 0, false);
    }

    int reach(int from, int height, int to, boolean wet) {
        return isSpot(from, height) && isPlace(to) ? m.glide(from, height, wet)[to] : -2;
    }

    int fields(int from, int height, boolean wet) {
        return isSpot(from, height) ? m.fields(from, height, wet) : -2;
    }

    int edge(int place, boolean wet) {
        return isPlace(place) ? m.edge(place, wet) : -2;
    }

    int fast(int climb) {
        return climb < 1 || climb > 2000 ? -2 : m.fast(climb);
    }

    int average(int climb) {
        return climb < 1 || climb > 2000 ? -2 : m.average(climb);
    }

    int farthest() {
        return m.farthest();
    }

    int tour(int from, int height, boolean wet) {
        return isSpot(from, height) ? m.tour(from, height, wet) : -2;
    }

    int street() {
        return m.street();
    }

    // ---- promises 19 to 28 ----

    private int[] state(int rule, int place, int height, int period, boolean lift, boolean wet) {
        if (!isRule(rule) || !m.isState(place, height, period, wet)) {
            return new int[] {NOTHING, -2, -2};
        }
        return m.state(rule, place, height, period, lift, wet);
    }

    int worth(int rule, int place, int height, int period, boolean lift, boolean wet) {
        return state(rule, place, height, period, lift, wet)[0];
    }

    int deed(int rule, int place, int height, int period, boolean lift, boolean wet) {
        return state(rule, place, height, period, lift, wet)[1];
    }

    int home(int rule, int place, int height, int period, boolean lift, boolean wet) {
        return state(rule, place, height, period, lift, wet)[2];
    }

    int start(int rule) {
        return noStart() || !isRule(rule) ? NOTHING : m.start(rule);
    }

    int cost(int rule) {
        return noStart() || rule != 1 && rule != 3 ? NOTHING : m.start(0) - m.start(rule);
    }

    int leave(int place, int period, boolean wet) {
        return m.isState(place, m.ceiling, period, wet) ? m.leave(place, period, true, wet) : -2;
    }

    int on(int place, int period, boolean wet) {
        return m.isState(place, m.ceiling, period, wet) ? m.leave(place, period, false, wet) : -2;
    }

    int last(int place, int height) {
        return isSpot(place, height) ? m.lastSure(place, height) : -2;
    }

    int weak(int place, int height, int period) {
        return m.isState(place, height, period, false) ? m.weak(place, height, period) : -2;
    }

    int ends(int rule, boolean most) {
        return noStart() || !isRule(rule) ? NOTHING : m.ends(rule, most);
    }

    // ---- promises 31 to 35 ----

    int share(int place) {
        return noStart() || !isPlace(place) ? NOTHING : m.startIf(place, 100) - m.start(0);
    }

    int known(int place) {
        return noStart() || !isPlace(place) ? NOTHING : m.known(place);
    }

    int hawk(int place) {
        return noStart() || !isPlace(place) ? NOTHING : m.hawk(place);
    }

    int water() {
        if (noStart()) {
            return NOTHING;
        }
        return m.start(0, m.water > 0) - m.start(0, false);
    }

    int drop() {
        return m.drop();
    }

    // ---- promises 36 to 42 ----

    private boolean noFlights(int rule, int seed, int n) {
        return noStart() || !isRule(rule) || seed < 0 || seed > 2000000000 || n < 1 || n > 40;
    }

    int fly(int rule, int seed) {
        if (noFlights(rule, seed, 1)) {
            return -2;
        }
        latest = m.fly(rule, seed);
        return latest.size() - 1;
    }

    int flown(int i, int what) {
        return i < 0 || i >= latest.size() - 1 || what < 0 || what > 4 ? -1 : latest.get(i)[what];
    }

    int landed(int what) {
        return latest.isEmpty() || what < 0 || what > 4 ? -1 : latest.get(latest.size() - 1)[what];
    }

    int judge(int slot, int seed) {
        if (slot < 0 || slot > 3 || noFlights(0, seed, 1)) {
            return -2;
        }
        return rows[slot] == null ? -6 : m.judge(rows[slot], seed);
    }

    private int[] endOf(int rule, int seed) {
        List<int[]> flight = m.fly(rule, seed);
        return flight.get(flight.size() - 1);
    }

    int flights(int rule, int seed, int n) {
        if (noFlights(rule, seed, n)) {
            return -2;
        }
        int home = 0;
        for (int i = 0; i < n; i++) {
            home += endOf(rule, seed + i)[4] == 1 ? 1 : 0;
        }
        return home;
    }

    int sum(int rule, int seed, int n) {
        if (noFlights(rule, seed, n)) {
            return NOTHING;
        }
        int sum = 0;
        for (int i = 0; i < n; i++) {
            sum += endOf(rule, seed + i)[3];
        }
        return sum;
    }

    int spread(int rule, int seed, int n, int what) {
        if (noFlights(rule, seed, n) || what < 0 || what > 4) {
            return NOTHING;
        }
        int[] told = new int[n];
        for (int i = 0; i < n; i++) {
            int[] end = endOf(rule, seed + i);
            int deeds = m.fly(rule, seed + i).size() - 1;
            told[i] = new int[] {end[3], end[3], end[4] == 3 ? 1 : 0, end[2], deeds}[what];
        }
        Arrays.sort(told);
        return what == 0 ? told[0] : what == 2 || what == 3 ? Arrays.stream(told).sum() : told[n - 1];
    }

    // ---- promises 43 to 46 ----

    int soon() {
        return noStart() ? -2 : m.soonest(m.allPlaces());
    }

    int way(int i) {
        if (noStart()) {
            return -2;
        }
        List<Integer> way = m.way();
        return i >= 0 && i < way.size() ? way.get(i) : -1;
    }

    int soonest(int lifts) {
        return noStart() || lifts < 0 || lifts > m.allPlaces() ? -2 : m.soonest(lifts);
    }

    int key() {
        return noStart() ? -2 : m.key();
    }

    // ---- promises 47 to 52 ----

    int count(int what) {
        int slots = 0;
        for (long[] row : rows) {
            slots += row == null ? 0 : 1;
        }
        int[] told = {m.places.size(), m.legs.size(), m.lifts.size(), m.speeds.size(), lines, m.sights.size(), m.startPlace,
            tape.length, m.last, m.ceiling, slots};
        return what < 0 || what > 10 ? -1 : told[what];
    }

    int keep(int k) {
        if (k < 0 || k > 2) {
            return -2;
        }
        images[k] = new Image(m, lines);
        return 0;
    }

    int back(int k) {
        if (k < 0 || k > 2) {
            return -2;
        }
        if (images[k] == null) {
            return -6;
        }
        m = images[k].model;
        lines = images[k].lines;
        m.sights.clear();
        m.sights.addAll(images[k].sights);
        m.forget();
        return 0;
    }

    int row(int slot, int width, int n) {
        if (slot < 0 || slot > 3 || width < 0 || width > 3 || n > 60) {
            return -2;
        }
        if (n < 0) {
            return -3;
        }
        rows[slot] = new long[n];
        widths[slot] = width;
        return 0;
    }

    int write(int slot, int i, long v) {
        if (slot < 0 || slot > 3) {
            return -2;
        }
        if (rows[slot] == null) {
            return -6;
        }
        if (i < 0 || i >= rows[slot].length) {
            return -7;
        }
        int bits = 8 << widths[slot];
        rows[slot][i] = v << 64 - bits >> 64 - bits;
        return 0;
    }

    int paste(int slot, int i, int to, int k, int n) {
        if (slot < 0 || slot > 3 || to < 0 || to > 3) {
            return -2;
        }
        if (rows[slot] == null || rows[to] == null) {
            return -6;
        }
        if (widths[slot] != widths[to]) {
            return -8;
        }
        if (i < 0 || k < 0 || n < 0 || (long) i + n > rows[slot].length || (long) k + n > rows[to].length) {
            return -7;
        }
        long[] former = rows[slot].clone();
        for (int j = 0; j < n; j++) {
            rows[to][k + j] = former[i + j];
        }
        return 0;
    }
}
