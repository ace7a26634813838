import java.util.List;
import java.util.Random;

/** Every question, asked of drawn skies, and compared with what the model says. */
public final class ModelTest {
    private static final int NOTHING = -2000000000;

    private final Due d;
    private final RandomSky sky;
    private final Model m;
    private final Random random;
    private LastCloud x;
    private final String name;

    private ModelTest(Due d, long seed) {
        this.d = d;
        sky = new RandomSky(seed);
        m = sky.model;
        random = new Random(seed * 31 + 7);
        name = "sky " + seed + " ";
    }

    public static void main(String[] args) {
        long from = args.length > 0 ? Long.parseLong(args[0]) : 0;
        long skies = args.length > 1 ? Long.parseLong(args[1]) : 300;
        Due d = new Due("ModelTest");
        for (long seed = from; seed < from + skies && d.wrong() < 20; seed++) {
            new ModelTest(d, seed).run();
        }
        d.finish();
    }

    private void run() {
        x = new LastCloud();
        due("sky()", Skies.tell(x, sky.text), sky.lines());
        counts();
        legs();
        ask();
        int kept = m.sights.size();
        due("keep", x.keep(1), 0);
        int told = 1 + random.nextInt(4);
        for (int i = 0; i < told; i++) {
            tellSight();
        }
        ask();
        if (random.nextBoolean()) {
            due("back", x.back(1), 0);
            while (m.sights.size() > kept) {
                m.sights.remove(m.sights.size() - 1);
            }
        } else {
            int n = random.nextInt(m.sights.size() + 1);
            for (int i = 0; i < n; i++) {
                m.sights.remove(m.sights.size() - 1);
            }
            due("unsee", x.unsee(n), m.sights.size());
        }
        m.forget();
        rules();
    }

    private void due(String call, long got, long want) {
        int before = d.wrong();
        d.due(name + call, got, want);
        if (before == 0 && d.wrong() == 1) {
            System.out.println(sky.text);
        }
    }

    private int place() {
        return random.nextInt(m.places.size());
    }

    private void tellSight() {
        int p = place();
        int sort = random.nextInt(4);
        m.sights.add(new int[] {p, sort});
        m.forget();
        due("sight " + p + " " + sort, x.sight(p, sort), m.sights.size());
    }

    private void counts() {
        int[] want = {m.places.size(), m.legs.size(), m.lifts.size(), m.speeds.size(), sky.lines(), 0, m.startPlace, 0,
            m.last, m.ceiling, 0};
        for (int i = 0; i < want.length; i++) {
            due("count " + i, x.count(i), want[i]);
        }
    }

    private void legs() {
        for (int leg = 0; leg < m.legs.size(); leg++) {
            for (int speed = 0; speed < m.speeds.size(); speed++) {
                boolean back = random.nextBoolean();
                boolean wet = random.nextBoolean();
                due("periods", x.periods(leg, back, speed, wet), m.takes(leg, back, speed, wet));
                due("loss", x.loss(leg, back, speed, wet), m.loses(leg, back, speed, wet));
            }
        }
        int c = 1 + random.nextInt(2000);
        due("fast", x.fast(c), m.fast(c));
        due("average", x.average(c), m.average(c));
        due("farthest", x.farthest(), m.farthest());
        due("street", x.street(), m.street());
        for (int i = 0; i < 4; i++) {
            boolean wet = random.nextBoolean();
            int p = place();
            int to = place();
            int h = random.nextInt(m.ceiling + 1);
            boolean below = h < m.places.get(p)[0];
            due("reach", x.reach(p, h, to, wet), below ? -2 : m.glide(p, h, wet)[to]);
            due("fields", x.fields(p, h, wet), below ? -2 : m.fields(p, h, wet));
            due("edge", x.edge(p, wet), m.edge(p, wet));
            due("tour", x.tour(p, h, wet), below ? -2 : m.tour(p, h, wet));
            due("climb", x.climb(p, wet), m.wins(p, wet));
            due("sign", x.sign(p, wet), m.bySign(m.toldChance(p), p, wet, 10000));
        }
    }

    private void ask() {
        for (int p = 0; p < m.places.size(); p++) {
            due("chance " + p, x.chance(p), m.chance(p));
        }
        rules();
        if (m.startPlace != Model.NONE) {
            knowing();
            flights();
            routes();
        } else {
            due("start", x.start(0), NOTHING);
            due("soon", x.soon(), -2);
        }
    }

    private void rules() {
        for (int rule = 0; rule < 4; rule++) {
            for (int i = 0; i < 5; i++) {
                int p = place();
                int h = random.nextInt(m.ceiling + 1);
                int t = random.nextInt(m.last + 1);
                boolean lift = random.nextBoolean();
                boolean wet = random.nextBoolean();
                String state = "(" + rule + ", " + p + ", " + h + ", " + t + ", " + lift + ", " + wet + ")";
                int[] want = {NOTHING, -2, -2};
                if (m.isState(p, h, t, wet)) {
                    want = m.state(rule, p, h, t, lift, wet);
                }
                due("worth" + state, x.worth(rule, p, h, t, lift, wet), want[0]);
                due("deed" + state, x.deed(rule, p, h, t, lift, wet), want[1]);
                due("home" + state, x.home(rule, p, h, t, lift, wet), want[2]);
            }
            if (m.startPlace != Model.NONE) {
                due("start " + rule, x.start(rule), m.start(rule));
                due("ends " + rule, x.ends(rule, false), m.ends(rule, false));
                due("ends most " + rule, x.ends(rule, true), m.ends(rule, true));
                due("cost " + rule, x.cost(rule), rule % 2 == 1 ? m.start(0) - m.start(rule) : NOTHING);
            }
        }
        for (int i = 0; i < 3; i++) {
            int p = place();
            int h = random.nextInt(m.ceiling + 1);
            int t = random.nextInt(m.last + 1);
            boolean wet = random.nextBoolean();
            boolean none = wet && m.water == 0;
            due("leave", x.leave(p, t, wet), none ? -2 : m.leave(p, t, true, wet));
            due("on", x.on(p, t, wet), none ? -2 : m.leave(p, t, false, wet));
            due("last", x.last(p, h), m.isState(p, h, 0, false) ? m.lastSure(p, h) : -2);
        }
        int p = place();
        int h = random.nextInt(m.ceiling + 1);
        int t = random.nextInt(m.last + 1);
        due("weak", x.weak(p, h, t), m.isState(p, h, t, false) ? m.weak(p, h, t) : -2);
    }

    private void knowing() {
        int p = place();
        due("share " + p, x.share(p), m.startIf(p, 100) - m.start(0));
        due("known " + p, x.known(p), m.known(p));
        due("hawk " + p, x.hawk(p), m.hawk(p));
        due("water", x.water(), m.water == 0 ? 0 : m.start(0, true) - m.start(0, false));
        due("drop", x.drop(), m.drop());
    }

    private void flights() {
        int rule = random.nextInt(4);
        int seed = random.nextInt(2000000001);
        List<int[]> told = m.fly(rule, seed);
        due("fly", x.fly(rule, seed), told.size() - 1);
        for (int i = 0; i < told.size(); i++) {
            for (int what = 0; what < 5; what++) {
                int want = told.get(i)[what];
                if (i < told.size() - 1) {
                    due("flown " + i + " " + what, x.flown(i, what), want);
                } else {
                    due("landed " + what, x.landed(what), want);
                    due("flown behind the end", x.flown(i, what), -1);
                }
            }
        }
        int n = 1 + random.nextInt(8);
        int[] want = {Integer.MAX_VALUE, Integer.MIN_VALUE, 0, 0, 0, 0, 0};
        for (int i = 0; i < n; i++) {
            List<int[]> one = m.fly(rule, seed + i);
            int[] end = one.get(one.size() - 1);
            want[0] = Math.min(want[0], end[3]);
            want[1] = Math.max(want[1], end[3]);
            want[2] += end[4] == 3 ? 1 : 0;
            want[3] += end[2];
            want[4] = Math.max(want[4], one.size() - 1);
            want[5] += end[4] == 1 ? 1 : 0;
            want[6] += end[3];
        }
        for (int what = 0; what < 5; what++) {
            due("spread " + what, x.spread(rule, seed, n, what), want[what]);
        }
        due("flights", x.flights(rule, seed, n), want[5]);
        due("sum", x.sum(rule, seed, n), want[6]);
        due("landed still", x.landed(2), told.get(told.size() - 1)[2]);
        judge(seed);
    }

    private void judge(int seed) {
        long[] row = new long[1 + random.nextInt(12)];
        List<int[]> like = m.fly(random.nextInt(4), seed);
        due("row", x.row(2, 3, row.length), 0);
        for (int i = 0; i < row.length; i++) {
            row[i] = i < like.size() - 1 && random.nextInt(5) != 0 ? like.get(i)[0] : anyDeed();
            due("write", x.write(2, i, row[i]), 0);
        }
        due("judge", x.judge(2, seed), m.judge(row, seed));
    }

    private long anyDeed() {
        long[] some = {-1, 0, 1, 2, 99, 106, 200, 1L << 32, (1L << 32) - 1, Long.MIN_VALUE, -2};
        return random.nextBoolean() ? 100 + random.nextInt(100) : some[random.nextInt(some.length)];
    }

    private void routes() {
        due("soon", x.soon(), m.soonest(m.allPlaces()));
        List<Integer> way = m.way();
        for (int i = -1; i < way.size() + 2; i++) {
            due("way " + i, x.way(i), i >= 0 && i < way.size() ? way.get(i) : -1);
        }
        int lifts = random.nextInt(m.allPlaces() + 1);
        due("soonest " + lifts, x.soonest(lifts), m.soonest(lifts));
        due("soonest none", x.soonest(m.allPlaces() + 1), -2);
        due("key", x.key(), m.key());
    }
}
