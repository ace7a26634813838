import java.util.ArrayDeque;
import java.util.ArrayList;
import java.util.HashMap;
import java.util.HashSet;
import java.util.List;
import java.util.Map;
import java.util.Set;

/**
 * The document's terms once more, in another form: state by state, from the words, slow and without tables.
 * What it answers is compared with what LastCloud answers.
 */
final class Model {
    static final int NOTHING = -2000000000;
    static final int NONE = -1;

    // what a text tells; lists hold one array a line
    final List<int[]> places = new ArrayList<>();   // ground, field or -1
    final List<int[]> legs = new ArrayList<>();     // first, second, miles, air, wind, hill
    final Map<Integer, int[]> lifts = new HashMap<>(); // chance, up, sign there, sign gone
    final List<int[]> speeds = new ArrayList<>();   // speed, sink
    final List<Integer> points = new ArrayList<>();
    int home = NONE;
    int turn = 0;
    int water = 0;
    int ceiling = 40;
    int last = 40;
    int worthHome = 1000;
    int worthPeriod = 0;
    int worthOut = 0;
    int startPlace = NONE;
    int startAt = 0;
    boolean startWet = false;
    final List<int[]> sights = new ArrayList<>();

    // what a question supposes in place of what is told
    int[] supposedChance = null; // place, chance
    int[] supposedUp = null;     // place, up

    private final Map<Long, int[]> memo = new HashMap<>();

    void forget() {
        memo.clear();
    }

    // ---- II ----

    int takes(int leg, boolean back, int speed, boolean wet) {
        int[] l = legs.get(leg);
        int v = speeds.get(speed)[0];
        int through = wet ? v + v * water / 100 : v;
        int over = through + (back ? -l[4] : l[4]);
        if (over < 1) {
            return NONE;
        }
        return 12 * l[2] / over + 1;
    }

    int loses(int leg, boolean back, int speed, boolean wet) {
        int periods = takes(leg, back, speed, wet);
        if (periods == NONE) {
            return NOTHING;
        }
        return 5 * periods * (speeds.get(speed)[1] - legs.get(leg)[3]) / 100;
    }

    int wins(int place, boolean wet) {
        if (!lifts.containsKey(place)) {
            return 0;
        }
        int up = lifts.get(place)[1];
        if (supposedUp != null && supposedUp[0] == place) {
            up = supposedUp[1];
        }
        int less = wet ? up * water / 100 : 0;
        int steps = 5 * (up - less - turn) / 100;
        return steps < 0 ? 0 : steps;
    }

    int toldChance(int place) {
        return lifts.containsKey(place) ? lifts.get(place)[0] : 0;
    }

    int bySign(int chance, int place, boolean seen, int whole) {
        int a = lifts.containsKey(place) ? lifts.get(place)[2] : 0;
        int b = lifts.containsKey(place) ? lifts.get(place)[3] : 0;
        if (!seen) {
            a = 100 - a;
            b = 100 - b;
        }
        int by = chance * a + (100 - chance) * b;
        return by == 0 ? NONE : whole * (chance * a) / by;
    }

    int chance(int place) {
        if (supposedChance != null && supposedChance[0] == place) {
            return supposedChance[1];
        }
        int c = toldChance(place);
        for (int[] s : sights) {
            if (s[0] == place) {
                c = chanceBehind(c, place, s[1]);
            }
        }
        return c;
    }

    int chanceBehind(int c, int place, int sort) {
        if (sort == 0) {
            return 100;
        }
        if (sort == 1) {
            return 0;
        }
        int after = bySign(c, place, sort == 2, 100);
        return after == NONE ? c : after;
    }

    // ---- a leg as a step ----

    /** To: place, height, periods; null: it can't be flown. */
    int[] step(int place, int height, int leg, int speed, boolean wet) {
        int[] l = legs.get(leg);
        if (l[0] != place && l[1] != place) {
            return null;
        }
        boolean back = l[1] == place;
        int periods = takes(leg, back, speed, wet);
        if (periods == NONE) {
            return null;
        }
        int loss = loses(leg, back, speed, wet);
        if (height - loss / 2 < l[5]) {
            return null;
        }
        int to = back ? l[0] : l[1];
        int there = Math.min(ceiling, height - loss);
        if (there < places.get(to)[0]) {
            return null;
        }
        return new int[] {to, there, periods};
    }

    boolean landable(int place) {
        return place == home || places.get(place)[1] != NONE;
    }

    // ---- III ----

    /** The greatest heights reached, place by place, every height being tried. */
    int[] glide(int from, int height, boolean wet) {
        int[] best = new int[places.size()];
        java.util.Arrays.fill(best, NONE);
        boolean[][] seen = new boolean[places.size()][ceiling + 1];
        ArrayDeque<int[]> open = new ArrayDeque<>();
        open.add(new int[] {from, height});
        seen[from][height] = true;
        while (!open.isEmpty()) {
            int[] at = open.remove();
            best[at[0]] = Math.max(best[at[0]], at[1]);
            for (int leg = 0; leg < legs.size(); leg++) {
                for (int speed = 0; speed < speeds.size(); speed++) {
                    int[] to = step(at[0], at[1], leg, speed, wet);
                    if (to != null && !seen[to[0]][to[1]]) {
                        seen[to[0]][to[1]] = true;
                        open.add(new int[] {to[0], to[1]});
                    }
                }
            }
        }
        return best;
    }

    private final Map<Integer, Integer> fieldBits = new HashMap<>();

    int fields(int from, int height, boolean wet) {
        int key = (from * 64 + height) * 2 + (wet ? 1 : 0);
        Integer known = fieldBits.get(key);
        if (known != null) {
            return known;
        }
        int[] best = glide(from, height, wet);
        int bits = 0;
        for (int p = 0; p < best.length; p++) {
            if (best[p] != NONE && landable(p)) {
                bits |= 1 << p;
            }
        }
        fieldBits.put(key, bits);
        return bits;
    }

    int edge(int place, boolean wet) {
        for (int h = places.get(place)[0]; h <= ceiling; h++) {
            if (fields(place, h, wet) != 0) {
                return h;
            }
        }
        return NONE;
    }

    int tour(int from, int height, boolean wet) {
        int[] best = glide(from, height, wet);
        int bits = 0;
        for (int p = 0; p < best.length; p++) {
            if (best[p] != NONE && fields(p, best[p], wet) != 0) {
                bits |= 1 << p;
            }
        }
        return bits;
    }

    int street() {
        int most = 0;
        for (int p = 0; p < places.size(); p++) {
            most = Math.max(most, streetFrom(p, 1 << p));
        }
        return most;
    }

    private int streetFrom(int place, int been) {
        int most = 1;
        for (int leg = 0; leg < legs.size(); leg++) {
            int[] l = legs.get(leg);
            for (int speed = 0; speed < speeds.size(); speed++) {
                for (int way = 0; way < 2; way++) {
                    int from = l[way];
                    int to = l[1 - way];
                    int loss = loses(leg, way == 1, speed, false);
                    if (from == place && (been >> to & 1) == 0 && loss != NOTHING && loss <= 0) {
                        most = Math.max(most, 1 + streetFrom(to, been | 1 << to));
                    }
                }
            }
        }
        return most;
    }

    // ---- IV ----

    int fast(int c) {
        int best = NONE;
        for (int i = 0; i < speeds.size(); i++) {
            if (best == NONE || (long) speeds.get(i)[0] * c * (c + speeds.get(best)[1])
                > (long) speeds.get(best)[0] * c * (c + speeds.get(i)[1])) {
                best = i;
            }
        }
        return best;
    }

    int average(int c) {
        int best = fast(c);
        return best == NONE ? NONE : (int) (10L * speeds.get(best)[0] * c / (c + speeds.get(best)[1]));
    }

    int farthest() {
        int best = NONE;
        for (int i = 0; i < speeds.size(); i++) {
            if (best == NONE
                || speeds.get(i)[0] * speeds.get(best)[1] > speeds.get(best)[0] * speeds.get(i)[1]) {
                best = i;
            }
        }
        return best;
    }

    // ---- V ----

    int landing(int rule, int place, int period) {
        if (rule == 2) {
            return place == home ? 10000 - period : 0;
        }
        if (place == home) {
            return worthHome - worthPeriod * period;
        }
        if (places.get(place)[1] != NONE) {
            return places.get(place)[1] - worthPeriod * period;
        }
        return 0 - worthOut;
    }

    static int mix(int c, int with, int without) {
        return (c * with + (100 - c) * without) / 100;
    }

    boolean isState(int place, int height, int period, boolean wet) {
        return place >= 0 && place < places.size() && height >= places.get(place)[0] && height <= ceiling
            && period >= 0 && period <= last && !(wet && water == 0);
    }

    /** Worth, deed, home. */
    int[] state(int rule, int place, int height, int period, boolean lift, boolean wet) {
        long key = ((((rule * 8L + place) * 64 + height) * 64 + period) * 2 + (lift ? 1 : 0)) * 2 + (wet ? 1 : 0);
        int[] known = memo.get(key);
        if (known != null) {
            return known;
        }
        int[] best = {landing(rule, place, period), -1, place == home ? 10000 : 0};
        int higher = Math.min(ceiling, height + wins(place, wet));
        if (lift && period + 1 <= last && higher > height) {
            int[] next = state(rule, place, higher, period + 1, true, wet);
            best = better(best, next[0], 0, next[2]);
        }
        if (wet) {
            int[] next = state(rule, place, height, period, lift, false);
            best = better(best, next[0], 1, next[2]);
        }
        for (int leg = 0; leg < legs.size(); leg++) {
            for (int speed = 0; speed < speeds.size(); speed++) {
                int[] to = step(place, height, leg, speed, wet);
                if (to == null || period + to[2] > last || !allows(rule, speed, to, wet)) {
                    continue;
                }
                int c = chance(to[0]);
                int[] with = state(rule, to[0], to[1], period + to[2], true, wet);
                int[] without = state(rule, to[0], to[1], period + to[2], false, wet);
                best = better(best, mix(c, with[0], without[0]), 100 + 10 * leg + speed, mix(c, with[2], without[2]));
            }
        }
        memo.put(key, best);
        return best;
    }

    private static int[] better(int[] best, int worth, int deed, int home) {
        return worth > best[0] ? new int[] {worth, deed, home} : best;
    }

    private boolean allows(int rule, int speed, int[] to, boolean wet) {
        if (rule == 1) {
            return fields(to[0], to[1], wet) != 0;
        }
        if (rule == 3) {
            int c = lifts.containsKey(to[0]) ? Math.max(1, lifts.get(to[0])[1] - turn) : 100;
            return speed == fast(c);
        }
        return true;
    }

    int startHeight() {
        return Math.max(places.get(startPlace)[0], Math.min(ceiling, startAt));
    }

    boolean startIsWet() {
        return startWet && water > 0;
    }

    int start(int rule, boolean wet) {
        int with = state(rule, startPlace, startHeight(), 0, true, wet)[0];
        int without = state(rule, startPlace, startHeight(), 0, false, wet)[0];
        return mix(chance(startPlace), with, without);
    }

    int start(int rule) {
        return start(rule, startIsWet());
    }

    int startIf(int place, int chance) {
        supposedChance = new int[] {place, chance};
        forget();
        int worth = start(0);
        supposedChance = null;
        forget();
        return worth;
    }

    int leave(int place, int period, boolean lift, boolean wet) {
        for (int h = places.get(place)[0]; h <= ceiling; h++) {
            if (state(0, place, h, period, lift, wet)[1] >= 100) {
                return h;
            }
        }
        return NONE;
    }

    int lastSure(int place, int height) {
        int found = NONE;
        for (int p = 0; p <= last; p++) {
            if (state(0, place, height, p, false, false)[2] == 10000) {
                found = p;
            }
        }
        return found;
    }

    int weak(int place, int height, int period) {
        if (!lifts.containsKey(place)) {
            return NONE;
        }
        int found = NONE;
        for (int up = 2000; up >= 0; up -= 250) {
            supposedUp = new int[] {place, up};
            forget();
            if (state(0, place, height, period, true, false)[1] == 0) {
                found = up;
            }
        }
        supposedUp = null;
        forget();
        return found;
    }

    int ends(int rule, boolean most) {
        Set<Integer> found = new HashSet<>();
        Set<Long> been = new HashSet<>();
        arrive(rule, startPlace, startHeight(), 0, startIsWet(), found, been);
        int told = found.iterator().next();
        for (int worth : found) {
            told = most ? Math.max(told, worth) : Math.min(told, worth);
        }
        return told;
    }

    private void arrive(int rule, int p, int h, int t, boolean wet, Set<Integer> found, Set<Long> been) {
        if (chance(p) > 0) {
            follow(rule, p, h, t, true, wet, found, been);
        }
        if (chance(p) < 100) {
            follow(rule, p, h, t, false, wet, found, been);
        }
    }

    private void follow(int rule, int p, int h, int t, boolean lift, boolean wet, Set<Integer> found, Set<Long> been) {
        if (!been.add((((p * 64L + h) * 64 + t) * 2 + (lift ? 1 : 0)) * 2 + (wet ? 1 : 0))) {
            return;
        }
        int deed = state(rule, p, h, t, lift, wet)[1];
        if (deed == -1) {
            found.add(landing(rule, p, t));
        } else if (deed == 0) {
            follow(rule, p, Math.min(ceiling, h + wins(p, wet)), t + 1, true, wet, found, been);
        } else if (deed == 1) {
            follow(rule, p, h, t, lift, false, found, been);
        } else {
            int[] to = step(p, h, (deed - 100) / 10, deed % 10, wet);
            arrive(rule, to[0], to[1], t + to[2], wet, found, been);
        }
    }

    // ---- VI ----

    int known(int place) {
        int c = chance(place);
        return (c * startIf(place, 100) + (100 - c) * startIf(place, 0)) / 100 - start(0);
    }

    int hawk(int place) {
        int c = chance(place);
        int a = lifts.containsKey(place) ? lifts.get(place)[2] : 0;
        int b = lifts.containsKey(place) ? lifts.get(place)[3] : 0;
        int seen = c * a + (100 - c) * b;
        int ifSeen = startIf(place, chanceBehind(c, place, 2));
        int ifNot = startIf(place, chanceBehind(c, place, 3));
        return (seen * ifSeen + (10000 - seen) * ifNot) / 10000 - start(0);
    }

    int drop() {
        if (startPlace == NONE || !startIsWet()) {
            return NONE;
        }
        int p = startPlace;
        int h = startHeight();
        int t = 0;
        while (true) {
            int deed = state(0, p, h, t, true, true)[1];
            if (deed == -1) {
                return NONE;
            }
            if (deed == 1) {
                return t;
            }
            if (deed == 0) {
                h = Math.min(ceiling, h + wins(p, true));
                t++;
            } else {
                int[] to = step(p, h, (deed - 100) / 10, deed % 10, true);
                p = to[0];
                h = to[1];
                t += to[2];
            }
        }
    }

    // ---- VII ----

    /** One flight: its deeds (deed, place, height, period, lift), and its end behind them. */
    List<int[]> fly(int rule, int seed) {
        List<int[]> told = new ArrayList<>();
        long[] x = {seed};
        int p = startPlace;
        int h = startHeight();
        int t = 0;
        boolean wet = startIsWet();
        boolean lift = draw(x) < chance(p);
        while (true) {
            int deed = state(rule, p, h, t, lift, wet)[1];
            told.add(new int[] {deed, p, h, t, lift ? 1 : 0});
            if (deed == -1) {
                break;
            }
            if (deed == 0) {
                h = Math.min(ceiling, h + wins(p, wet));
                t++;
            } else if (deed == 1) {
                wet = false;
            } else {
                int[] to = step(p, h, (deed - 100) / 10, deed % 10, wet);
                p = to[0];
                h = to[1];
                t += to[2];
                lift = draw(x) < chance(p);
            }
        }
        told.add(new int[] {p, h, t, landing(rule, p, t), p == home ? 1 : landable(p) ? 2 : 3});
        return told;
    }

    private static int draw(long[] x) {
        x[0] = (1103515245L * x[0] + 12345) % 2147483648L;
        return (int) (x[0] / 65536 % 100);
    }

    int judge(long[] row, int seed) {
        long[] x = {seed};
        int p = startPlace;
        int h = startHeight();
        int t = 0;
        boolean wet = startIsWet();
        boolean lift = draw(x) < chance(p);
        int done = 0;
        for (long deed : row) {
            if (deed == -1) {
                return done + 1;
            }
            if (deed == 0) {
                int higher = Math.min(ceiling, h + wins(p, wet));
                if (!lift || t + 1 > last || higher <= h) {
                    return done;
                }
                h = higher;
                t++;
            } else if (deed == 1) {
                if (!wet) {
                    return done;
                }
                wet = false;
            } else {
                int leg = deed >= 100 && deed < 200 ? (int) (deed - 100) / 10 : 99;
                int speed = (int) (deed % 10);
                if (leg >= legs.size() || speed >= speeds.size()) {
                    return done;
                }
                int[] to = step(p, h, leg, speed, wet);
                if (to == null || t + to[2] > last) {
                    return done;
                }
                p = to[0];
                h = to[1];
                t += to[2];
                lift = draw(x) < chance(p);
            }
            done++;
        }
        return done;
    }

    // ---- VIII ----

    private int lifted;
    private final Map<Long, Boolean> cans = new HashMap<>();

    private int rounded(int been, int place) {
        return points.contains(place) ? been | 1 << place : been;
    }

    private boolean can(int p, int h, int been, int left) {
        int all = 0;
        for (int point : points) {
            all |= 1 << point;
        }
        if (p == home && been == all) {
            return true;
        }
        long key = ((p * 64L + h) * 256 + been) * 64 + left;
        Boolean known = cans.get(key);
        if (known == null) {
            known = firstDeed(p, h, been, left) != null;
            cans.put(key, known);
        }
        return known;
    }

    /** The first deed by which one is home in time: its end, or null. */
    private int[] firstDeed(int p, int h, int been, int left) {
        if (left < 1) {
            return null;
        }
        int higher = Math.min(ceiling, h + ((lifted >> p & 1) != 0 ? wins(p, startIsWet()) : 0));
        if (higher > h && can(p, higher, been, left - 1)) {
            return new int[] {p, higher, 1, 0};
        }
        for (int leg = 0; leg < legs.size(); leg++) {
            for (int speed = 0; speed < speeds.size(); speed++) {
                int[] to = step(p, h, leg, speed, startIsWet());
                if (to != null && to[2] <= left && can(to[0], to[1], rounded(been, to[0]), left - to[2])) {
                    return new int[] {to[0], to[1], to[2], 1};
                }
            }
        }
        return null;
    }

    int soonest(int lifts) {
        lifted = lifts;
        cans.clear();
        for (int left = 0; left <= last; left++) {
            if (can(startPlace, startHeight(), rounded(0, startPlace), left)) {
                return left;
            }
        }
        return NONE;
    }

    int allPlaces() {
        return (1 << places.size()) - 1;
    }

    List<Integer> way() {
        List<Integer> told = new ArrayList<>();
        int left = soonest(allPlaces());
        if (left == NONE) {
            return told;
        }
        int p = startPlace;
        int h = startHeight();
        int been = rounded(0, p);
        told.add(p);
        while (left > 0) {
            int[] to = firstDeed(p, h, been, left);
            p = to[0];
            h = to[1];
            left -= to[2];
            been = rounded(been, p);
            if (to[3] == 1) {
                told.add(p);
            }
        }
        return told;
    }

    int key() {
        int longest = soonest(allPlaces());
        int found = NONE;
        if (longest == NONE) {
            return NONE;
        }
        for (int p = 0; p < places.size(); p++) {
            int takes = soonest(allPlaces() & ~(1 << p));
            if (takes == NONE) {
                takes = 1000;
            }
            if (takes > longest) {
                longest = takes;
                found = p;
            }
        }
        return found;
    }
}
