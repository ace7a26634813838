import java.util.Arrays;

/**
 * A glider from cloud to cloud: a sky told as a text, and what a flight through it takes, dares and brings.
 * The numbered promises of the document say what each public method answers.
 */
public final class LastCloud {
    public static final int NONE = -1;

    private static final int NO_SUCH = -2;
    private static final int NO_ROOM = -3;
    private static final int FAULTY = -4;
    private static final int HAS_NOTHING = -6;
    private static final int BEYOND = -7;
    private static final int UNLIKE = -8;
    private static final int NOTHING = -2000000000;

    private static final int PLACES = 8;
    private static final int LEGS = 10;
    private static final int SPEEDS = 6;
    private static final int POINTS = 3;
    private static final int LINES = 60;
    private static final int SIGHTS = 20;
    private static final int TAPE = 1600;
    private static final int RULES = 4;
    private static final int SLOTS = 4;
    private static final int NUMBERS = 60;
    private static final int IMAGES = 3;
    private static final int FLIGHTS = 40;
    private static final int PERIODS = 48;
    private static final int HEIGHTS = 61;
    private static final int HOPS = LEGS * 2 * SPEEDS * 2;
    private static final int SEEDS = 2000000000;
    private static final int SURE = 10000;

    /** A height that no glider has. */
    private static final int NEVER = 1000000;

    private static final int BEST = 0;
    private static final int SAFE = 1;
    private static final int SOONEST = 2;
    private static final int FAST = 3;

    private static final int LAND = -1;
    private static final int CLIMB = 0;
    private static final int LET_GO = 1;
    private static final int FIRST_LEG = 100;

    private final byte[] tape = new byte[TAPE];
    private int tapeSize;
    private final Reader reader = new Reader(tape);
    private int faultKind;
    private int faultPlace = NONE;
    private Sky now = new Sky();
    private Sky draft = new Sky();
    private final Sky[] images = new Sky[IMAGES];
    private final boolean[] kept = new boolean[IMAGES];
    private final Hops hops = new Hops();
    /** One a rule, and behind them one for what is only supposed; each is made when it is first asked. */
    private final Plan[] plans = new Plan[RULES + 1];
    private final Outcomes outcomes = new Outcomes();
    private final Flight latest = new Flight();
    private final Flight other = new Flight();
    private final Route route = new Route();
    private final long[][] rows = new long[SLOTS][NUMBERS];
    private final int[] rowSizes = new int[SLOTS];
    private final int[] rowWidths = new int[SLOTS];

    public LastCloud() {
        for (int k = 0; k < IMAGES; k++) {
            images[k] = new Sky();
        }
        Arrays.fill(rowSizes, NONE);
        hops.build(now);
    }

    // ---- the sky's text ----

    public int feed(int a, int b, int c, int d, int e) {
        if (tapeSize + 20 > TAPE) {
            return NONE;
        }
        putNumber(a);
        putNumber(b);
        putNumber(c);
        putNumber(d);
        putNumber(e);
        return tapeSize;
    }

    private void putNumber(int number) {
        for (int shift = 24; shift >= 0 && tapeSize < TAPE; shift -= 8) {
            tape[tapeSize] = (byte) (number >> shift);
            tapeSize++;
        }
    }

    public int end(int n) {
        if (n < 0 || n > tapeSize) {
            return NONE;
        }
        tapeSize = n;
        return n;
    }

    public int sky() {
        draft.clear();
        faultKind = reader.readAll(tapeSize, draft);
        faultPlace = reader.faultPlace;
        tapeSize = 0;
        if (faultKind != 0) {
            return FAULTY;
        }
        Sky former = now;
        now = draft;
        draft = former;
        hops.build(now);
        forgetPlans();
        return now.lineCount;
    }

    public int fault(int what) {
        if (what == 0) {
            return faultKind;
        }
        return what == 1 ? faultPlace : NONE;
    }

    /** The plans were worked out from SKY and SIGHTS: another of these makes them stale. */
    private void forgetPlans() {
        for (int i = 0; i < plans.length; i++) {
            if (plans[i] != null) {
                plans[i].begun = false;
            }
        }
    }

    // ---- legs and lifts ----

    public int periods(int leg, boolean back, int speed, boolean wet) {
        if (!now.hasLeg(leg) || !now.hasSpeed(speed)) {
            return NO_SUCH;
        }
        return now.takes(leg, back, speed, wet);
    }

    public int loss(int leg, boolean back, int speed, boolean wet) {
        if (!now.hasLeg(leg) || !now.hasSpeed(speed)) {
            return NOTHING;
        }
        return now.loses(leg, back, speed, wet);
    }

    public int climb(int place, boolean wet) {
        return now.hasPlace(place) ? now.wins(place, wet) : NO_SUCH;
    }

    public int chance(int place) {
        return now.hasPlace(place) ? now.chanceNow(place) : NO_SUCH;
    }

    public int sight(int place, int sort) {
        if (!now.hasPlace(place) || sort < 0 || sort > 3) {
            return NO_SUCH;
        }
        if (now.sights.count >= SIGHTS) {
            return NO_ROOM;
        }
        now.sights.add(place, sort);
        forgetPlans();
        return now.sights.count;
    }

    public int unsee(int n) {
        if (n < 0 || n > now.sights.count) {
            return NO_SUCH;
        }
        now.sights.count -= n;
        forgetPlans();
        return now.sights.count;
    }

    public int sign(int place, boolean seen) {
        if (!now.hasPlace(place)) {
            return NO_SUCH;
        }
        Place there = now.places[place];
        return there.bySign(there.chance, seen, SURE);
    }

    // ---- without a lift ----

    public int reach(int from, int height, int to, boolean wet) {
        if (!now.hasSpot(from, height) || !now.hasPlace(to)) {
            return NO_SUCH;
        }
        hops.glide(now, from, height, wet);
        return hops.heightAt(to);
    }

    public int fields(int from, int height, boolean wet) {
        if (!now.hasSpot(from, height)) {
            return NO_SUCH;
        }
        hops.glide(now, from, height, wet);
        int bits = 0;
        for (int place = 0; place < now.placeCount; place++) {
            if (hops.heightAt(place) != NONE && now.isToLandAt(place)) {
                bits |= 1 << place;
            }
        }
        return bits;
    }

    public int edge(int place, boolean wet) {
        if (!now.hasPlace(place)) {
            return NO_SUCH;
        }
        int least = hops.edgeAt(place, wet);
        return least == NEVER ? NONE : least;
    }

    public int tour(int from, int height, boolean wet) {
        if (!now.hasSpot(from, height)) {
            return NO_SUCH;
        }
        hops.glide(now, from, height, wet);
        int bits = 0;
        for (int place = 0; place < now.placeCount; place++) {
            int best = hops.heightAt(place);
            if (best != NONE && best >= hops.edgeAt(place, wet)) {
                bits |= 1 << place;
            }
        }
        return bits;
    }

    public int street() {
        return hops.longestStreet(now);
    }

    // ---- the table of speeds ----

    public int fast(int climb) {
        return isClimb(climb) ? now.polar.fastest(climb) : NO_SUCH;
    }

    public int average(int climb) {
        if (!isClimb(climb)) {
            return NO_SUCH;
        }
        int speed = now.polar.fastest(climb);
        return speed == NONE ? NONE : now.polar.tenHours(speed, climb);
    }

    private static boolean isClimb(int climb) {
        return climb >= 1 && climb <= 2000;
    }

    public int farthest() {
        return now.polar.flattest();
    }

    // ---- rules ----

    public int worth(int rule, int place, int height, int period, boolean lift, boolean wet) {
        if (!isRule(rule) || !now.hasState(place, height, period, wet)) {
            return NOTHING;
        }
        Plan plan = planOf(rule);
        plan.fill(period, wet);
        return plan.worthAt(Plan.spot(period, wet, place, height), lift);
    }

    public int deed(int rule, int place, int height, int period, boolean lift, boolean wet) {
        if (!isRule(rule) || !now.hasState(place, height, period, wet)) {
            return NO_SUCH;
        }
        Plan plan = planOf(rule);
        plan.fill(period, wet);
        return plan.deedAt(Plan.spot(period, wet, place, height), lift);
    }

    public int home(int rule, int place, int height, int period, boolean lift, boolean wet) {
        if (!isRule(rule) || !now.hasState(place, height, period, wet)) {
            return NO_SUCH;
        }
        Plan plan = planOf(rule);
        plan.fill(period, wet);
        return plan.homeAt(Plan.spot(period, wet, place, height), lift);
    }

    private static boolean isRule(int rule) {
        return rule >= 0 && rule < RULES;
    }

    private Plan planOf(int rule) {
        if (plans[rule] == null) {
            plans[rule] = new Plan();
        }
        Plan plan = plans[rule];
        if (!plan.begun) {
            plan.begin(now, hops, rule);
        }
        return plan;
    }

    /** A plan by the best rule, begun anew, in which something may be supposed. */
    private Plan trialPlan() {
        if (plans[RULES] == null) {
            plans[RULES] = new Plan();
        }
        plans[RULES].begin(now, hops, BEST);
        return plans[RULES];
    }

    public int start(int rule) {
        if (!isRule(rule) || !now.hasStart()) {
            return NOTHING;
        }
        return planOf(rule).startWorth(now.startsWet());
    }

    public int cost(int rule) {
        if ((rule != SAFE && rule != FAST) || !now.hasStart()) {
            return NOTHING;
        }
        boolean wet = now.startsWet();
        return planOf(BEST).startWorth(wet) - planOf(rule).startWorth(wet);
    }

    public int leave(int place, int period, boolean wet) {
        return leastToLeave(place, period, true, wet);
    }

    public int on(int place, int period, boolean wet) {
        return leastToLeave(place, period, false, wet);
    }

    private int leastToLeave(int place, int period, boolean lift, boolean wet) {
        if (!now.hasState(place, now.ceiling, period, wet)) {
            return NO_SUCH;
        }
        Plan plan = planOf(BEST);
        plan.fill(period, wet);
        for (int height = now.places[place].ground; height <= now.ceiling; height++) {
            if (plan.deedAt(Plan.spot(period, wet, place, height), lift) >= FIRST_LEG) {
                return height;
            }
        }
        return NONE;
    }

    public int last(int place, int height) {
        if (!now.hasState(place, height, 0, false)) {
            return NO_SUCH;
        }
        Plan plan = planOf(BEST);
        for (int period = now.lastPeriod; period >= 0; period--) {
            plan.fill(period, false);
            if (plan.homeAt(Plan.spot(period, false, place, height), false) == SURE) {
                return period;
            }
        }
        return NONE;
    }

    public int weak(int place, int height, int period) {
        if (!now.hasState(place, height, period, false)) {
            return NO_SUCH;
        }
        if (!now.places[place].hasLift) {
            return NONE;
        }
        int spot = Plan.spot(period, false, place, height);
        for (int up = 0; up <= 2000; up += 250) {
            Plan plan = trialPlan();
            plan.setDryWin(place, now.winsBy(up, false));
            plan.fill(period, false);
            if (plan.deedAt(spot, true) == CLIMB) {
                return up;
            }
        }
        return NONE;
    }

    public int ends(int rule, boolean most) {
        if (!isRule(rule) || !now.hasStart()) {
            return NOTHING;
        }
        Plan plan = planOf(rule);
        plan.fill(0, now.startsWet());
        outcomes.spreadFromStart(plan);
        return most ? outcomes.greatest : outcomes.least;
    }

    // ---- what it is worth to know ----

    public int share(int place) {
        if (!now.hasPlace(place) || !now.hasStart()) {
            return NOTHING;
        }
        return startWorthWith(place, 100) - bestStartWorth();
    }

    public int known(int place) {
        if (!now.hasPlace(place) || !now.hasStart()) {
            return NOTHING;
        }
        int chance = now.chanceNow(place);
        int there = startWorthWith(place, 100);
        int gone = startWorthWith(place, 0);
        return mixed(chance, there, gone) - bestStartWorth();
    }

    public int hawk(int place) {
        if (!now.hasPlace(place) || !now.hasStart()) {
            return NOTHING;
        }
        Place there = now.places[place];
        int chance = now.chanceNow(place);
        int seen = chance * there.signThere + (100 - chance) * there.signGone;
        int worthSeen = startWorthWith(place, there.afterSight(chance, 2));
        int worthUnseen = startWorthWith(place, there.afterSight(chance, 3));
        return (seen * worthSeen + (SURE - seen) * worthUnseen) / SURE - bestStartWorth();
    }

    private int startWorthWith(int place, int chance) {
        Plan plan = planOf(BEST);
        if (chance != plan.chanceAt(place)) {
            plan = trialPlan();
            plan.setChance(place, chance);
        }
        return plan.startWorth(now.startsWet());
    }

    private int bestStartWorth() {
        return planOf(BEST).startWorth(now.startsWet());
    }

    private static int mixed(int chance, int with, int without) {
        return (chance * with + (100 - chance) * without) / 100;
    }

    public int water() {
        if (!now.hasStart()) {
            return NOTHING;
        }
        if (now.water == 0) {
            return 0;
        }
        Plan plan = planOf(BEST);
        return plan.startWorth(true) - plan.startWorth(false);
    }

    public int drop() {
        if (!now.hasStart() || !now.startsWet()) {
            return NONE;
        }
        Plan plan = planOf(BEST);
        plan.fill(0, true);
        other.beginUnderAllLifts(now);
        for (int i = 0; i < Flight.MOST && !other.ended; i++) {
            int deed = other.deedBy(plan);
            if (deed == LET_GO) {
                return other.period;
            }
            other.tryDeed(deed);
        }
        return NONE;
    }

    // ---- flights ----

    public int fly(int rule, int seed) {
        if (!isRule(rule) || !isSeed(seed) || !now.hasStart()) {
            return NO_SUCH;
        }
        flyOnce(latest, rule, seed);
        return latest.count;
    }

    private static boolean isSeed(int seed) {
        return seed >= 0 && seed <= SEEDS;
    }

    private void flyOnce(Flight flight, int rule, int seed) {
        Plan plan = planOf(rule);
        plan.fill(0, now.startsWet());
        flight.follow(plan, now, seed);
    }

    public int flown(int i, int what) {
        return latest.noted(i, what);
    }

    public int landed(int what) {
        return latest.endOf(what);
    }

    public int judge(int slot, int seed) {
        if (!isSlot(slot) || !isSeed(seed) || !now.hasStart()) {
            return NO_SUCH;
        }
        if (rowSizes[slot] == NONE) {
            return HAS_NOTHING;
        }
        other.begin(now, seed);
        int done = 0;
        for (int i = 0; i < rowSizes[slot] && !other.ended; i++) {
            if (!other.tryDeed(rows[slot][i])) {
                break;
            }
            done++;
        }
        return done;
    }

    public int flights(int rule, int seed, int n) {
        if (!areFlights(rule, seed, n)) {
            return NO_SUCH;
        }
        int home = 0;
        for (int i = 0; i < n; i++) {
            flyOnce(other, rule, seed + i);
            if (other.endKind == Flight.AT_HOME) {
                home++;
            }
        }
        return home;
    }

    private boolean areFlights(int rule, int seed, int n) {
        return isRule(rule) && isSeed(seed) && n >= 1 && n <= FLIGHTS && now.hasStart();
    }

    public int sum(int rule, int seed, int n) {
        if (!areFlights(rule, seed, n)) {
            return NOTHING;
        }
        int worths = 0;
        for (int i = 0; i < n; i++) {
            flyOnce(other, rule, seed + i);
            worths += other.endWorth;
        }
        return worths;
    }

    public int spread(int rule, int seed, int n, int what) {
        if (!areFlights(rule, seed, n) || what < 0 || what > 4) {
            return NOTHING;
        }
        flyOnce(other, rule, seed);
        int told = other.spreadValue(what);
        for (int i = 1; i < n; i++) {
            flyOnce(other, rule, seed + i);
            int value = other.spreadValue(what);
            if (what == 0) {
                told = Math.min(told, value);
            } else if (what == 1 || what == 4) {
                told = Math.max(told, value);
            } else {
                told += value;
            }
        }
        return told;
    }

    // ---- the soonest way ----

    public int soon() {
        return now.hasStart() ? route.fewest(now, hops, now.allPlaces()) : NO_SUCH;
    }

    public int way(int i) {
        if (!now.hasStart()) {
            return NO_SUCH;
        }
        int fewest = route.fewest(now, hops, now.allPlaces());
        if (fewest == NONE) {
            return NONE;
        }
        route.walk(fewest);
        return i >= 0 && i < route.wayCount ? route.way[i] : NONE;
    }

    public int soonest(int lifts) {
        if (!now.hasStart() || lifts < 0 || lifts > now.allPlaces()) {
            return NO_SUCH;
        }
        return route.fewest(now, hops, lifts);
    }

    public int key() {
        if (!now.hasStart()) {
            return NO_SUCH;
        }
        int all = now.allPlaces();
        int longest = route.fewest(now, hops, all);
        if (longest == NONE) {
            return NONE;
        }
        int key = NONE;
        for (int place = 0; place < now.placeCount; place++) {
            int without = route.fewest(now, hops, all & ~(1 << place));
            int takes = without == NONE ? NEVER : without;
            if (takes > longest) {
                longest = takes;
                key = place;
            }
        }
        return key;
    }

    // ---- counts and images ----

    public int count(int what) {
        switch (what) {
            case 0:
                return now.placeCount;
            case 1:
                return now.legCount;
            case 2:
                return Integer.bitCount(now.liftBits());
            case 3:
                return now.polar.count;
            case 4:
                return now.lineCount;
            case 5:
                return now.sights.count;
            case 6:
                return now.startPlace;
            case 7:
                return tapeSize;
            case 8:
                return now.lastPeriod;
            case 9:
                return now.ceiling;
            case 10:
                return slotsWithRow();
            default:
                return NONE;
        }
    }

    private int slotsWithRow() {
        int with = 0;
        for (int slot = 0; slot < SLOTS; slot++) {
            if (rowSizes[slot] != NONE) {
                with++;
            }
        }
        return with;
    }

    public int keep(int k) {
        if (k < 0 || k >= IMAGES) {
            return NO_SUCH;
        }
        images[k].copyFrom(now);
        kept[k] = true;
        return 0;
    }

    public int back(int k) {
        if (k < 0 || k >= IMAGES) {
            return NO_SUCH;
        }
        if (!kept[k]) {
            return HAS_NOTHING;
        }
        now.copyFrom(images[k]);
        hops.build(now);
        forgetPlans();
        return 0;
    }

    // ---- slots ----

    private static boolean isSlot(int slot) {
        return slot >= 0 && slot < SLOTS;
    }

    public int row(int slot, int width, int n) {
        if (!isSlot(slot) || width < 0 || width > 3 || n > NUMBERS) {
            return NO_SUCH;
        }
        if (n < 0) {
            return NO_ROOM;
        }
        Arrays.fill(rows[slot], 0L);
        rowSizes[slot] = n;
        rowWidths[slot] = width;
        return 0;
    }

    public int write(int slot, int i, long v) {
        if (!isSlot(slot)) {
            return NO_SUCH;
        }
        if (rowSizes[slot] == NONE) {
            return HAS_NOTHING;
        }
        if (i < 0 || i >= rowSizes[slot]) {
            return BEYOND;
        }
        rows[slot][i] = cutTo(rowWidths[slot], v);
        return 0;
    }

    private static long cutTo(int width, long v) {
        switch (width) {
            case 0:
                return (byte) v;
            case 1:
                return (short) v;
            case 2:
                return (int) v;
            default:
                return v;
        }
    }

    public int paste(int slot, int i, int to, int k, int n) {
        if (!isSlot(slot) || !isSlot(to)) {
            return NO_SUCH;
        }
        if (rowSizes[slot] == NONE || rowSizes[to] == NONE) {
            return HAS_NOTHING;
        }
        if (rowWidths[slot] != rowWidths[to]) {
            return UNLIKE;
        }
        if (!isPart(i, n, rowSizes[slot]) || !isPart(k, n, rowSizes[to])) {
            return BEYOND;
        }
        System.arraycopy(rows[slot], i, rows[to], k, n);
        return 0;
    }

    private static boolean isPart(int from, int n, int size) {
        return from >= 0 && n >= 0 && from <= size && n <= size - from;
    }

    // ---- what a sky is ----

    /** A place, and the lift that may stand there. */
    private static final class Place {
        private int ground;
        private int field;
        private boolean hasLift;
        private int chance;
        private int up;
        private int signThere;
        private int signGone;

        private void clear() {
            ground = 0;
            field = NONE;
            hasLift = false;
            chance = 0;
            up = 0;
            signThere = 0;
            signGone = 0;
        }

        private void copyFrom(Place from) {
            ground = from.ground;
            field = from.field;
            hasLift = from.hasLift;
            chance = from.chance;
            up = from.up;
            signThere = from.signThere;
            signGone = from.signGone;
        }

        private int afterSight(int before, int sort) {
            if (sort == 0) {
                return 100;
            }
            if (sort == 1) {
                return 0;
            }
            int after = bySign(before, sort == 2, 100);
            return after == NONE ? before : after;
        }

        /** The chance behind a sign, in parts of the whole; NONE: such a sign can't be. */
        private int bySign(int before, boolean seen, int whole) {
            int there = before * (seen ? signThere : 100 - signThere);
            int gone = (100 - before) * (seen ? signGone : 100 - signGone);
            return there + gone == 0 ? NONE : whole * there / (there + gone);
        }
    }

    /** A leg between two places; its wind blows from the first to the second. */
    private static final class Leg {
        private int first;
        private int second;
        private int miles;
        private int air;
        private int wind;
        private int hill;

        private void copyFrom(Leg from) {
            first = from.first;
            second = from.second;
            miles = from.miles;
            air = from.air;
            wind = from.wind;
            hill = from.hill;
        }
    }

    /** The table of speeds and what is lost by each. */
    private static final class Polar {
        private int count;
        private final int[] speeds = new int[SPEEDS];
        private final int[] sinks = new int[SPEEDS];

        private void add(int speed, int sink) {
            if (count < SPEEDS) {
                speeds[count] = speed;
                sinks[count] = sink;
                count++;
            }
        }

        private void copyFrom(Polar from) {
            count = from.count;
            System.arraycopy(from.speeds, 0, speeds, 0, SPEEDS);
            System.arraycopy(from.sinks, 0, sinks, 0, SPEEDS);
        }

        private int fastest(int climb) {
            int best = NONE;
            for (int i = 0; i < count; i++) {
                // fractions are compared crosswise: cut ones would make unlike speeds alike
                if (best == NONE || speeds[i] * (climb + sinks[best]) > speeds[best] * (climb + sinks[i])) {
                    best = i;
                }
            }
            return best;
        }

        private int tenHours(int speed, int climb) {
            int whole = climb + sinks[speed];
            return whole < 1 ? NONE : 10 * speeds[speed] * climb / whole;
        }

        private int flattest() {
            int best = NONE;
            for (int i = 0; i < count; i++) {
                if (best == NONE || speeds[i] * sinks[best] > speeds[best] * sinks[i]) {
                    best = i;
                }
            }
            return best;
        }
    }

    /** What has been seen, in its order. */
    private static final class Sights {
        private int count;
        private final int[] places = new int[SIGHTS];
        private final int[] sorts = new int[SIGHTS];

        private void add(int place, int sort) {
            if (count < SIGHTS) {
                places[count] = place;
                sorts[count] = sort;
                count++;
            }
        }

        private void copyFrom(Sights from) {
            count = from.count;
            System.arraycopy(from.places, 0, places, 0, SIGHTS);
            System.arraycopy(from.sorts, 0, sorts, 0, SIGHTS);
        }
    }

    /** All that a text tells, and the sights. */
    private static final class Sky {
        private final Place[] places = new Place[PLACES];
        private final Leg[] legs = new Leg[LEGS];
        private final Polar polar = new Polar();
        private final Sights sights = new Sights();
        private int placeCount;
        private int legCount;
        private int lineCount;
        private int turn;
        private int water;
        private int ceiling;
        private int lastPeriod;
        private int worthHome;
        private int worthPeriod;
        private int worthOut;
        private int homePlace;
        private int startPlace;
        private int startHeight;
        private boolean startWet;
        private int pointBits;

        private Sky() {
            for (int i = 0; i < PLACES; i++) {
                places[i] = new Place();
            }
            for (int i = 0; i < LEGS; i++) {
                legs[i] = new Leg();
            }
            clear();
        }

        private void clear() {
            for (int i = 0; i < PLACES; i++) {
                places[i].clear();
            }
            polar.count = 0;
            sights.count = 0;
            placeCount = 0;
            legCount = 0;
            lineCount = 0;
            turn = 0;
            water = 0;
            ceiling = 40;
            lastPeriod = 40;
            worthHome = 1000;
            worthPeriod = 0;
            worthOut = 0;
            homePlace = NONE;
            startPlace = NONE;
            startHeight = 0;
            startWet = false;
            pointBits = 0;
        }

        private void copyFrom(Sky from) {
            for (int i = 0; i < PLACES; i++) {
                places[i].copyFrom(from.places[i]);
            }
            for (int i = 0; i < LEGS; i++) {
                legs[i].copyFrom(from.legs[i]);
            }
            polar.copyFrom(from.polar);
            sights.copyFrom(from.sights);
            placeCount = from.placeCount;
            legCount = from.legCount;
            lineCount = from.lineCount;
            turn = from.turn;
            water = from.water;
            ceiling = from.ceiling;
            lastPeriod = from.lastPeriod;
            worthHome = from.worthHome;
            worthPeriod = from.worthPeriod;
            worthOut = from.worthOut;
            homePlace = from.homePlace;
            startPlace = from.startPlace;
            startHeight = from.startHeight;
            startWet = from.startWet;
            pointBits = from.pointBits;
        }

        private boolean hasPlace(int place) {
            return place >= 0 && place < placeCount;
        }

        private boolean hasLeg(int leg) {
            return leg >= 0 && leg < legCount;
        }

        private boolean hasSpeed(int speed) {
            return speed >= 0 && speed < polar.count;
        }

        /** One is never below the ground of the place where one is, nor above the ceiling. */
        private boolean hasSpot(int place, int height) {
            return hasPlace(place) && height >= places[place].ground && height <= ceiling;
        }

        private boolean hasState(int place, int height, int period, boolean wet) {
            return hasSpot(place, height) && period >= 0 && period <= lastPeriod && (!wet || water > 0);
        }

        private boolean hasStart() {
            return hasPlace(startPlace);
        }

        private boolean startsWet() {
            return startWet && water > 0;
        }

        private boolean isToLandAt(int place) {
            return place == homePlace || places[place].field != NONE;
        }

        private int allPlaces() {
            return (1 << placeCount) - 1;
        }

        private int liftBits() {
            int bits = 0;
            for (int place = 0; place < placeCount; place++) {
                if (places[place].hasLift) {
                    bits |= 1 << place;
                }
            }
            return bits;
        }

        private int overGround(int leg, boolean back, int speed, boolean wet) {
            int through = polar.speeds[speed];
            if (wet) {
                through += through * water / 100;
            }
            return back ? through - legs[leg].wind : through + legs[leg].wind;
        }

        private int takes(int leg, boolean back, int speed, boolean wet) {
            int over = overGround(leg, back, speed, wet);
            return over < 1 ? NONE : 12 * legs[leg].miles / over + 1;
        }

        private int loses(int leg, boolean back, int speed, boolean wet) {
            int takes = takes(leg, back, speed, wet);
            return takes == NONE ? NOTHING : 5 * takes * (polar.sinks[speed] - legs[leg].air) / 100;
        }

        private int wins(int place, boolean wet) {
            return places[place].hasLift ? winsBy(places[place].up, wet) : 0;
        }

        private int winsBy(int up, boolean wet) {
            int heavy = wet ? up * water / 100 : 0;
            return Math.max(0, 5 * (up - heavy - turn) / 100);
        }

        private int capped(int height) {
            return Math.min(ceiling, height);
        }

        private int chanceNow(int place) {
            int chance = places[place].chance;
            for (int i = 0; i < sights.count; i++) {
                if (sights.places[i] == place) {
                    chance = places[place].afterSight(chance, sights.sorts[i]);
                }
            }
            return chance;
        }

        /** The speed for the way to a place, by what its lift tells. */
        private int fastSpeedTo(int place) {
            Place there = places[place];
            return polar.fastest(there.hasLift ? Math.max(1, there.up - turn) : 100);
        }

        private int landingWorth(int rule, int place, int period) {
            if (rule == SOONEST) {
                return place == homePlace ? SURE - period : 0;
            }
            if (place == homePlace) {
                return worthHome - worthPeriod * period;
            }
            int field = places[place].field;
            return field != NONE ? field - worthPeriod * period : -worthOut;
        }
    }

    // ---- reading a text ----

    /** Reads a tape as the lines of a sky, up to its first fault. */
    private static final class Reader {
        private static final int NO_TOKEN = 1;
        private static final int NOT_SO = 2;
        private static final int TOO_MANY = 3;

        private static final int AT_END = 0;
        private static final int WORD = 1;
        private static final int NUMBER = 2;
        private static final int SEMICOLON = 3;
        private static final int STRANGE = 4;

        private static final int PLACE = 0;
        private static final int LEG = 1;
        private static final int LIFT = 2;
        private static final int SPEED = 3;
        private static final int POINT = 4;
        private static final int TURN = 5;
        private static final int WATER = 6;
        private static final int CEILING = 7;
        private static final int LAST = 8;
        private static final int WORTH = 9;
        private static final int START = 10;

        /** Above every bound, and small enough that ten times it is still a number. */
        private static final int HUGE = 1000000;

        private final byte[] text;
        private final int[] kinds = new int[TAPE + 1];
        private final int[] froms = new int[TAPE + 1];
        private final int[] behinds = new int[TAPE + 1];
        private int tokenCount;
        /** The token that comes next; the last one is the text's end, and is never left. */
        private int at;
        private int fault;
        private int faultPlace;
        private int toldOnce;
        private Sky sky;

        private Reader(byte[] text) {
            this.text = text;
        }

        /** The first fault, or 0. */
        private int readAll(int size, Sky into) {
            sky = into;
            at = 0;
            fault = 0;
            faultPlace = NONE;
            toldOnce = 0;
            splitText(Math.min(size, TAPE));
            for (int i = 0; i < tokenCount && fault == 0 && kinds[at] != AT_END; i++) {
                readLine();
            }
            if (fault == 0 && sky.hasStart()) {
                // the ceiling may be told behind the start
                int height = Math.min(sky.ceiling, sky.startHeight);
                sky.startHeight = Math.max(sky.places[sky.startPlace].ground, height);
            }
            return fault;
        }

        private void splitText(int size) {
            tokenCount = 0;
            int from = 0;
            while (from < size) {
                int kind = kindOf(text[from]);
                int behind = from + 1;
                if (kind == WORD || kind == NUMBER) {
                    while (behind < size && kindOf(text[behind]) == kind) {
                        behind++;
                    }
                }
                if (text[from] != 32 && text[from] != 10) {
                    addToken(kind, from, behind);
                }
                from = behind;
            }
            addToken(AT_END, size, size);
        }

        private void addToken(int kind, int from, int behind) {
            if (tokenCount <= TAPE) {
                kinds[tokenCount] = kind;
                froms[tokenCount] = from;
                behinds[tokenCount] = behind;
                tokenCount++;
            }
        }

        private static int kindOf(int sign) {
            if (sign >= 'a' && sign <= 'z') {
                return WORD;
            }
            if (sign >= '0' && sign <= '9') {
                return NUMBER;
            }
            return sign == ';' ? SEMICOLON : STRANGE;
        }

        private void fail(int kind) {
            if (fault == 0) {
                fault = kind;
                faultPlace = froms[at];
            }
        }

        private void goOn() {
            if (at + 1 < tokenCount) {
                at++;
            }
        }

        private boolean isWord(String word) {
            if (kinds[at] != WORD || behinds[at] - froms[at] != word.length()) {
                return false;
            }
            for (int i = 0; i < word.length(); i++) {
                if (text[froms[at] + i] != word.charAt(i)) {
                    return false;
                }
            }
            return true;
        }

        private boolean takeIf(String word) {
            if (fault != 0 || !isWord(word)) {
                return false;
            }
            goOn();
            return true;
        }

        private void takeWord(String word) {
            if (fault != 0) {
                return;
            }
            if (isWord(word)) {
                goOn();
            } else {
                fail(NO_TOKEN);
            }
        }

        private int takeNumber(int least, int greatest) {
            if (fault != 0) {
                return 0;
            }
            if (kinds[at] != NUMBER) {
                fail(NO_TOKEN);
                return 0;
            }
            int number = 0;
            for (int i = froms[at]; i < behinds[at]; i++) {
                number = Math.min(HUGE, number * 10 + text[i] - '0');
            }
            if (number < least || number > greatest) {
                fail(NOT_SO);
                return 0;
            }
            goOn();
            return number;
        }

        private int takeSigned(int greatest) {
            int number = takeNumber(0, greatest);
            if (fault == 0 && isWord("down")) {
                goOn();
                number = -number;
            }
            return number;
        }

        /** A place told ahead that is none of the barred ones (bits). */
        private int takePlace(int barred) {
            int token = at;
            int place = takeNumber(0, sky.placeCount - 1);
            if (fault == 0 && (barred >> place & 1) != 0) {
                at = token;
                fail(NOT_SO);
            }
            return place;
        }

        private void readLine() {
            int line = lineKind();
            if (line == NONE) {
                fail(NO_TOKEN);
            } else if ((toldOnce >> line & 1) != 0) {
                fail(NOT_SO);
            } else if (sky.lineCount >= LINES || isFull(line)) {
                fail(TOO_MANY);
            } else {
                goOn();
                readRest(line);
                if (kinds[at] != SEMICOLON) {
                    fail(NO_TOKEN);
                }
                if (fault == 0) {
                    goOn();
                    sky.lineCount++;
                }
            }
        }

        private int lineKind() {
            if (isWord("place")) {
                return PLACE;
            }
            if (isWord("leg")) {
                return LEG;
            }
            if (isWord("lift")) {
                return LIFT;
            }
            if (isWord("speed")) {
                return SPEED;
            }
            if (isWord("point")) {
                return POINT;
            }
            if (isWord("turn")) {
                return TURN;
            }
            if (isWord("water")) {
                return WATER;
            }
            if (isWord("ceiling")) {
                return CEILING;
            }
            if (isWord("last")) {
                return LAST;
            }
            if (isWord("worth")) {
                return WORTH;
            }
            return isWord("start") ? START : NONE;
        }

        private boolean isFull(int line) {
            switch (line) {
                case PLACE:
                    return sky.placeCount >= PLACES;
                case LEG:
                    return sky.legCount >= LEGS;
                case SPEED:
                    return sky.polar.count >= SPEEDS;
                case POINT:
                    return Integer.bitCount(sky.pointBits) >= POINTS;
                default:
                    return false;
            }
        }

        /** Reads a line behind its first word, up to its sign. */
        private void readRest(int line) {
            if (line >= TURN) {
                toldOnce |= 1 << line;
            }
            switch (line) {
                case PLACE:
                    readPlace();
                    break;
                case LEG:
                    readLeg();
                    break;
                case LIFT:
                    readLift();
                    break;
                case SPEED:
                    readSpeed();
                    break;
                case POINT:
                    sky.pointBits |= 1 << takePlace(sky.pointBits);
                    break;
                case TURN:
                    sky.turn = takeNumber(0, 999);
                    break;
                case WATER:
                    sky.water = takeNumber(0, 50);
                    break;
                case CEILING:
                    sky.ceiling = takeNumber(31, 60);
                    break;
                case LAST:
                    sky.lastPeriod = takeNumber(1, 47);
                    break;
                case WORTH:
                    readWorth();
                    break;
                default:
                    readStart();
                    break;
            }
        }

        private void readPlace() {
            takeWord("ground");
            int ground = takeNumber(0, 30);
            int field = NONE;
            boolean isHome = false;
            if (isWord("home") && sky.homePlace != NONE) {
                fail(NOT_SO);
            } else if (takeIf("home")) {
                isHome = true;
            } else if (takeIf("field")) {
                field = takeNumber(0, 999);
            }
            if (fault == 0 && sky.placeCount < PLACES) {
                sky.places[sky.placeCount].ground = ground;
                sky.places[sky.placeCount].field = field;
                if (isHome) {
                    sky.homePlace = sky.placeCount;
                }
                sky.placeCount++;
            }
        }

        private void readLeg() {
            int first = takePlace(0);
            int second = takePlace(1 << first);
            takeWord("miles");
            int miles = takeNumber(1, 60);
            takeWord("air");
            int air = takeSigned(999);
            takeWord("wind");
            int wind = takeSigned(60);
            int hill = takeIf("hill") ? takeNumber(0, 40) : 0;
            if (fault == 0 && sky.legCount < LEGS) {
                Leg leg = sky.legs[sky.legCount];
                leg.first = first;
                leg.second = second;
                leg.miles = miles;
                leg.air = air;
                leg.wind = wind;
                leg.hill = hill;
                sky.legCount++;
            }
        }

        private void readLift() {
            int number = takePlace(sky.liftBits());
            takeWord("chance");
            int chance = takeNumber(0, 100);
            takeWord("up");
            int up = takeNumber(0, 2000);
            int signThere = 0;
            int signGone = 0;
            if (takeIf("sign")) {
                signThere = takeNumber(0, 100);
                signGone = takeNumber(0, 100);
            }
            if (fault == 0 && sky.hasPlace(number)) {
                Place place = sky.places[number];
                place.hasLift = true;
                place.chance = chance;
                place.up = up;
                place.signThere = signThere;
                place.signGone = signGone;
            }
        }

        private void readSpeed() {
            int speed = takeNumber(20, 150);
            takeWord("sink");
            int sink = takeNumber(1, 999);
            if (fault == 0) {
                sky.polar.add(speed, sink);
            }
        }

        private void readWorth() {
            takeWord("home");
            sky.worthHome = takeNumber(0, 9999);
            takeWord("period");
            sky.worthPeriod = takeNumber(0, 99);
            takeWord("out");
            sky.worthOut = takeNumber(0, 9999);
        }

        private void readStart() {
            int place = takePlace(0);
            takeWord("at");
            int height = takeNumber(0, 60);
            boolean wet = takeIf("wet");
            if (fault == 0) {
                sky.startPlace = place;
                sky.startHeight = height;
                sky.startWet = wet;
            }
        }
    }

    // ---- gliding ----

    /** Every way to fly a leg by a speed (a hop), grouped by water and by the place where it begins. */
    private static final class Hops {
        private static final int GROUPS = 2 * PLACES;

        private final int[] firsts = new int[GROUPS + 1];
        private final int[] tos = new int[HOPS];
        private final int[] takes = new int[HOPS];
        private final int[] losses = new int[HOPS];
        /** The least height from which a hop can be flown. */
        private final int[] leasts = new int[HOPS];
        private final int[] deeds = new int[HOPS];
        private int count;
        /** The least height from which a place to land at is reached, by groups; NEVER: from none. */
        private final int[] edges = new int[GROUPS];
        /** What the latest glide came to, by places. */
        private final int[] heights = new int[PLACES];
        /** The places (bits) at which a street through a set of places may end. */
        private final int[] endings = new int[1 << PLACES];

        private static int group(int place, boolean wet) {
            return wet ? PLACES + place : place;
        }

        private void build(Sky sky) {
            count = 0;
            for (int group = 0; group < GROUPS; group++) {
                firsts[group] = count;
                int place = group % PLACES;
                if (place < sky.placeCount) {
                    addFrom(sky, place, group >= PLACES);
                }
            }
            firsts[GROUPS] = count;
            findEdges(sky, false);
            findEdges(sky, true);
        }

        private void addFrom(Sky sky, int place, boolean wet) {
            for (int number = 0; number < sky.legCount; number++) {
                Leg leg = sky.legs[number];
                if (leg.first == place || leg.second == place) {
                    for (int speed = 0; speed < sky.polar.count; speed++) {
                        add(sky, number, leg.second == place, speed, wet);
                    }
                }
            }
        }

        private void add(Sky sky, int number, boolean back, int speed, boolean wet) {
            int periods = sky.takes(number, back, speed, wet);
            if (periods == NONE || count >= HOPS) {
                return;
            }
            Leg leg = sky.legs[number];
            int from = back ? leg.second : leg.first;
            int to = back ? leg.first : leg.second;
            int loss = sky.loses(number, back, speed, wet);
            int least = Math.max(leg.hill + loss / 2, sky.places[to].ground + loss);
            tos[count] = to;
            takes[count] = periods;
            losses[count] = loss;
            leasts[count] = Math.max(least, sky.places[from].ground);
            deeds[count] = FIRST_LEG + 10 * number + speed;
            count++;
        }

        private int edgeAt(int place, boolean wet) {
            int group = group(place, wet);
            return group >= 0 && group < GROUPS ? edges[group] : NEVER;
        }

        private int heightAt(int place) {
            return place >= 0 && place < PLACES ? heights[place] : NONE;
        }

        private int speedOf(int hop) {
            return (deeds[hop] - FIRST_LEG) % 10;
        }

        private void findEdges(Sky sky, boolean wet) {
            for (int place = 0; place < sky.placeCount; place++) {
                edges[group(place, wet)] = sky.isToLandAt(place) ? sky.places[place].ground : NEVER;
            }
            boolean lowered = true;
            // each round but the last lowers some edge by a step, or from never
            for (int round = 0; round <= PLACES * (HEIGHTS + 1) && lowered; round++) {
                lowered = false;
                for (int place = 0; place < sky.placeCount; place++) {
                    int least = leastByHop(sky, place, wet);
                    if (least < edgeAt(place, wet)) {
                        edges[group(place, wet)] = least;
                        lowered = true;
                    }
                }
            }
        }

        private int leastByHop(Sky sky, int place, boolean wet) {
            int least = NEVER;
            int group = group(place, wet);
            for (int hop = firsts[group]; hop < firsts[group + 1]; hop++) {
                int beyond = edgeAt(tos[hop], wet);
                if (beyond != NEVER) {
                    int needed = Math.max(leasts[hop], beyond + losses[hop]);
                    if (needed <= sky.ceiling) {
                        least = Math.min(least, needed);
                    }
                }
            }
            return least;
        }

        /** The greatest heights to which one comes without a lift; NONE: one does not come there. */
        private void glide(Sky sky, int from, int height, boolean wet) {
            Arrays.fill(heights, NONE);
            heights[from] = height;
            boolean raised = true;
            // each round but the last raises some height by a step, or from none
            for (int round = 0; round <= PLACES * (HEIGHTS + 1) && raised; round++) {
                raised = false;
                for (int place = 0; place < sky.placeCount; place++) {
                    if (heights[place] != NONE && raiseFrom(sky, place, group(place, wet))) {
                        raised = true;
                    }
                }
            }
        }

        private boolean raiseFrom(Sky sky, int place, int group) {
            boolean raised = false;
            for (int hop = firsts[group]; hop < firsts[group + 1]; hop++) {
                int there = sky.capped(heights[place] - losses[hop]);
                if (heights[place] >= leasts[hop] && raiseTo(tos[hop], there)) {
                    raised = true;
                }
            }
            return raised;
        }

        private boolean raiseTo(int place, int height) {
            if (place < 0 || place >= PLACES || height <= heights[place]) {
                return false;
            }
            heights[place] = height;
            return true;
        }

        /** The most places on a path along hops without loss, each place once. */
        private int longestStreet(Sky sky) {
            int longest = 0;
            Arrays.fill(endings, 0);
            for (int place = 0; place < sky.placeCount; place++) {
                endings[1 << place] = 1 << place;
            }
            // a set comes ahead of the greater ones that it grows to
            for (int set = 1; set <= sky.allPlaces(); set++) {
                if (endings[set] != 0) {
                    longest = Math.max(longest, Integer.bitCount(set));
                }
                for (int place = 0; place < sky.placeCount; place++) {
                    if ((endings[set] >> place & 1) != 0) {
                        growStreets(set, place);
                    }
                }
            }
            return longest;
        }

        private void growStreets(int set, int place) {
            for (int hop = firsts[place]; hop < firsts[place + 1]; hop++) {
                int bit = 1 << tos[hop];
                int grown = set | bit;
                if (losses[hop] <= 0 && grown > set && grown < endings.length) {
                    endings[grown] |= bit;
                }
            }
        }
    }

    // ---- a rule's deeds ----

    /** What a rule does and what that is worth, in every state, worked out from the last period on. */
    private static final class Plan {
        private static final int SPOTS = PERIODS * 2 * PLACES * HEIGHTS;
        /** A home chance and a deed share one number: this many times the first, and the second and 1. */
        private static final int SHARE = 1000;

        private final int[] worthThere = new int[SPOTS];
        private final int[] worthGone = new int[SPOTS];
        private final int[] worthMixed = new int[SPOTS];
        private final int[] doneThere = new int[SPOTS];
        private final int[] doneGone = new int[SPOTS];
        private final int[] leasts = new int[HOPS];
        private final int[] chances = new int[PLACES];
        private final int[] winsDry = new int[PLACES];
        private final int[] winsWet = new int[PLACES];
        private boolean begun;
        private Sky sky;
        private Hops hops;
        private int rule;
        private int dryFrom;
        private int wetFrom;

        private static int spot(int period, boolean wet, int place, int height) {
            return ((period * 2 + (wet ? 1 : 0)) * PLACES + place) * HEIGHTS + height;
        }

        private void begin(Sky under, Hops along, int by) {
            sky = under;
            hops = along;
            rule = by;
            dryFrom = sky.lastPeriod + 1;
            wetFrom = dryFrom;
            for (int place = 0; place < sky.placeCount; place++) {
                chances[place] = sky.chanceNow(place);
                winsDry[place] = sky.wins(place, false);
                winsWet[place] = sky.wins(place, true);
            }
            for (int group = 0; group < Hops.GROUPS; group++) {
                for (int hop = hops.firsts[group]; hop < hops.firsts[group + 1]; hop++) {
                    leasts[hop] = leastByRule(hop, group >= PLACES);
                }
            }
            begun = true;
        }

        private int leastByRule(int hop, boolean wet) {
            int to = hops.tos[hop];
            if (rule == SAFE) {
                int edge = hops.edgeAt(to, wet);
                return edge == NEVER ? NEVER : Math.max(hops.leasts[hop], edge + hops.losses[hop]);
            }
            if (rule == FAST && hops.speedOf(hop) != sky.fastSpeedTo(to)) {
                return NEVER;
            }
            return hops.leasts[hop];
        }

        private int chanceAt(int place) {
            return place >= 0 && place < PLACES ? chances[place] : 0;
        }

        private void setChance(int place, int chance) {
            chances[place] = chance;
        }

        private void setDryWin(int place, int steps) {
            winsDry[place] = steps;
        }

        private static boolean isSpot(int spot) {
            return spot >= 0 && spot < SPOTS;
        }

        private int worthAt(int spot, boolean lift) {
            if (!isSpot(spot)) {
                return NOTHING;
            }
            return lift ? worthThere[spot] : worthGone[spot];
        }

        private int mixedAt(int spot) {
            return isSpot(spot) ? worthMixed[spot] : NOTHING;
        }

        private int doneAt(int spot, boolean lift) {
            if (spot < 0 || spot >= SPOTS) {
                return 0;
            }
            return lift ? doneThere[spot] : doneGone[spot];
        }

        private int deedAt(int spot, boolean lift) {
            return doneAt(spot, lift) % SHARE - 1;
        }

        private int homeAt(int spot, boolean lift) {
            return doneAt(spot, lift) / SHARE;
        }

        private int startWorth(boolean wet) {
            fill(0, wet);
            return mixedAt(spot(0, wet, sky.startPlace, sky.startHeight));
        }

        /** Works out the states of a period and of all later ones; wet ones may lead to dry ones. */
        private void fill(int period, boolean wet) {
            for (int p = dryFrom - 1; p >= period; p--) {
                fillPeriod(p, false);
                dryFrom = p;
            }
            if (wet) {
                for (int p = wetFrom - 1; p >= period; p--) {
                    fillPeriod(p, true);
                    wetFrom = p;
                }
            }
        }

        private void fillPeriod(int period, boolean wet) {
            for (int place = 0; place < sky.placeCount; place++) {
                for (int height = sky.places[place].ground; height <= sky.ceiling; height++) {
                    int hop = bestHop(period, wet, place, height);
                    int spot = spot(period, wet, place, height);
                    if (isSpot(spot)) {
                        settle(spot, period, place, height, hop, true);
                        settle(spot, period, place, height, hop, false);
                        worthMixed[spot] = mixed(chances[place], worthThere[spot], worthGone[spot]);
                    }
                }
            }
        }

        /** The first of the hops of the greatest worth, or NONE. */
        private int bestHop(int period, boolean wet, int place, int height) {
            int best = NONE;
            int bestWorth = 0;
            int group = Hops.group(place, wet);
            for (int hop = hops.firsts[group]; hop < hops.firsts[group + 1]; hop++) {
                if (height >= leasts[hop] && period + hops.takes[hop] <= sky.lastPeriod) {
                    int worth = mixedAt(behind(hop, period, wet, height));
                    if (best == NONE || worth > bestWorth) {
                        best = hop;
                        bestWorth = worth;
                    }
                }
            }
            return best;
        }

        private int behind(int hop, int period, boolean wet, int height) {
            int lower = Math.min(sky.ceiling, height - hops.losses[hop]);
            return spot(period + hops.takes[hop], wet, hops.tos[hop], lower);
        }

        /** Chooses the deed of a state, its best hop being known: the first of those of the greatest worth. */
        private void settle(int spot, int period, int place, int height, int hop, boolean lift) {
            boolean wet = spot / (PLACES * HEIGHTS) % 2 == 1;
            int best = sky.landingWorth(rule, place, period);
            int deed = LAND;
            int home = place == sky.homePlace ? SURE : 0;
            int higher = sky.capped(height + (wet ? winsWet[place] : winsDry[place]));
            if (lift && higher > height && period < sky.lastPeriod) {
                int next = spot(period + 1, wet, place, higher);
                if (worthAt(next, true) > best) {
                    best = worthAt(next, true);
                    deed = CLIMB;
                    home = homeAt(next, true);
                }
            }
            if (wet) {
                int next = spot(period, false, place, height);
                if (worthAt(next, lift) > best) {
                    best = worthAt(next, lift);
                    deed = LET_GO;
                    home = homeAt(next, lift);
                }
            }
            if (hop != NONE) {
                int next = behind(hop, period, wet, height);
                if (mixedAt(next) > best) {
                    best = mixedAt(next);
                    deed = hops.deeds[hop];
                    home = mixed(chanceAt(hops.tos[hop]), homeAt(next, true), homeAt(next, false));
                }
            }
            if (lift) {
                worthThere[spot] = best;
                doneThere[spot] = home * SHARE + deed + 1;
            } else {
                worthGone[spot] = best;
                doneGone[spot] = home * SHARE + deed + 1;
            }
        }
    }

    /** The landings to which a rule can come from the start, whatever lifts are there. */
    private static final class Outcomes {
        private static final int GONE = 1;
        private static final int THERE = 2;

        private final byte[] reached = new byte[Plan.SPOTS];
        private int least;
        private int greatest;
        private Plan plan;
        private Sky sky;

        private void spreadFromStart(Plan by) {
            plan = by;
            sky = by.sky;
            Arrays.fill(reached, (byte) 0);
            // no worth is so great or so small, so the first landing takes the place of both
            least = -NOTHING;
            greatest = NOTHING;
            arrive(Plan.spot(0, sky.startsWet(), sky.startPlace, sky.startHeight), sky.startPlace);
            for (int period = 0; period <= sky.lastPeriod; period++) {
                // letting the water go takes no time, so wet states come first
                spreadFrom(period, true);
                spreadFrom(period, false);
            }
        }

        private void arrive(int spot, int place) {
            if (plan.chanceAt(place) > 0) {
                mark(spot, true);
            }
            if (plan.chanceAt(place) < 100) {
                mark(spot, false);
            }
        }

        private void mark(int spot, boolean lift) {
            if (Plan.isSpot(spot)) {
                reached[spot] |= lift ? THERE : GONE;
            }
        }

        private int marksAt(int spot) {
            return Plan.isSpot(spot) ? reached[spot] : 0;
        }

        private void spreadFrom(int period, boolean wet) {
            for (int place = 0; place < sky.placeCount; place++) {
                for (int height = sky.places[place].ground; height <= sky.ceiling; height++) {
                    int marks = marksAt(Plan.spot(period, wet, place, height));
                    if ((marks & THERE) != 0) {
                        follow(period, wet, place, height, true);
                    }
                    if ((marks & GONE) != 0) {
                        follow(period, wet, place, height, false);
                    }
                }
            }
        }

        private void follow(int period, boolean wet, int place, int height, boolean lift) {
            int deed = plan.deedAt(Plan.spot(period, wet, place, height), lift);
            if (deed == LAND) {
                int worth = sky.landingWorth(plan.rule, place, period);
                least = Math.min(least, worth);
                greatest = Math.max(greatest, worth);
            } else if (deed == CLIMB) {
                int higher = sky.capped(height + sky.wins(place, wet));
                mark(Plan.spot(period + 1, wet, place, higher), true);
            } else if (deed == LET_GO) {
                mark(Plan.spot(period, false, place, height), lift);
            } else {
                followLeg(deed, period, wet, place, height);
            }
        }

        private void followLeg(int deed, int period, boolean wet, int place, int height) {
            int number = (deed - FIRST_LEG) / 10;
            int speed = (deed - FIRST_LEG) % 10;
            if (!sky.hasLeg(number) || !sky.hasSpeed(speed)) {
                return;
            }
            Leg leg = sky.legs[number];
            boolean back = leg.second == place;
            int to = back ? leg.first : leg.second;
            int lower = sky.capped(height - sky.loses(number, back, speed, wet));
            arrive(Plan.spot(period + sky.takes(number, back, speed, wet), wet, to, lower), to);
        }
    }

    // ---- one flight ----

    /** A glider under way from the start, and the deeds that it has done. */
    private static final class Flight {
        private static final int MOST = 100;
        private static final int AT_HOME = 1;
        private static final int IN_FIELD = 2;
        private static final int OUT = 3;

        private final int[] deeds = new int[MOST];
        private final int[] places = new int[MOST];
        private final int[] heights = new int[MOST];
        private final int[] times = new int[MOST];
        private final boolean[] lifts = new boolean[MOST];
        private final int[] chances = new int[PLACES];
        private int count;
        private Sky sky;
        private long drawn;
        private boolean allLifts;
        private int place;
        private int height;
        private int period;
        private boolean lift;
        private boolean wet;
        private boolean ended;
        private int endKind;
        private int endWorth;

        private void begin(Sky under, int seed) {
            allLifts = false;
            drawn = seed;
            takeOff(under);
        }

        private void beginUnderAllLifts(Sky under) {
            allLifts = true;
            takeOff(under);
        }

        private void takeOff(Sky under) {
            sky = under;
            for (int i = 0; i < sky.placeCount; i++) {
                chances[i] = sky.chanceNow(i);
            }
            count = 0;
            place = sky.startPlace;
            height = sky.startHeight;
            period = 0;
            wet = sky.startsWet();
            ended = false;
            meetLift();
        }

        private void meetLift() {
            lift = allLifts || drawOfHundred() < chances[place];
        }

        private int drawOfHundred() {
            drawn = (1103515245L * drawn + 12345L) % 2147483648L;
            return (int) (drawn / 65536L % 100L);
        }

        private void follow(Plan plan, Sky under, int seed) {
            begin(under, seed);
            for (int i = 0; i < MOST && !ended; i++) {
                int deed = deedBy(plan);
                note(deed);
                tryDeed(deed);
            }
            endWorth = sky.landingWorth(plan.rule, place, period);
            if (place == sky.homePlace) {
                endKind = AT_HOME;
            } else {
                endKind = sky.isToLandAt(place) ? IN_FIELD : OUT;
            }
        }

        private int deedBy(Plan plan) {
            return plan.deedAt(Plan.spot(period, wet, place, height), lift);
        }

        private void note(int deed) {
            if (count < MOST) {
                deeds[count] = deed;
                places[count] = place;
                heights[count] = height;
                times[count] = period;
                lifts[count] = lift;
                count++;
            }
        }

        /** Does a deed, if it can be done. */
        private boolean tryDeed(long deed) {
            if (ended) {
                return false;
            }
            if (deed == LAND) {
                ended = true;
                return true;
            }
            if (deed == CLIMB) {
                return tryClimb();
            }
            if (deed == LET_GO) {
                boolean had = wet;
                wet = false;
                return had;
            }
            if (deed < FIRST_LEG || deed >= FIRST_LEG + 10 * LEGS) {
                return false;
            }
            int code = (int) deed - FIRST_LEG;
            return tryLeg(code / 10, code % 10);
        }

        private boolean tryClimb() {
            int higher = sky.capped(height + sky.wins(place, wet));
            if (!lift || higher <= height || period >= sky.lastPeriod) {
                return false;
            }
            height = higher;
            period++;
            return true;
        }

        private boolean tryLeg(int number, int speed) {
            if (!sky.hasLeg(number) || !sky.hasSpeed(speed)) {
                return false;
            }
            Leg leg = sky.legs[number];
            if (leg.first != place && leg.second != place) {
                return false;
            }
            boolean back = leg.second == place;
            int takes = sky.takes(number, back, speed, wet);
            if (takes == NONE || period + takes > sky.lastPeriod) {
                return false;
            }
            int to = back ? leg.first : leg.second;
            int loss = sky.loses(number, back, speed, wet);
            int lower = sky.capped(height - loss);
            if (height - loss / 2 < leg.hill || !sky.hasSpot(to, lower)) {
                return false;
            }
            place = to;
            height = lower;
            period += takes;
            meetLift();
            return true;
        }

        private int noted(int i, int what) {
            if (i < 0 || i >= count) {
                return NONE;
            }
            switch (what) {
                case 0:
                    return deeds[i];
                case 1:
                    return places[i];
                case 2:
                    return heights[i];
                case 3:
                    return times[i];
                case 4:
                    return lifts[i] ? 1 : 0;
                default:
                    return NONE;
            }
        }

        private int endOf(int what) {
            if (count == 0) {
                return NONE;
            }
            switch (what) {
                case 0:
                    return place;
                case 1:
                    return height;
                case 2:
                    return period;
                case 3:
                    return endWorth;
                case 4:
                    return endKind;
                default:
                    return NONE;
            }
        }

        private int spreadValue(int what) {
            switch (what) {
                case 2:
                    return endKind == OUT ? 1 : 0;
                case 3:
                    return period;
                case 4:
                    return count;
                default:
                    return endWorth;
            }
        }
    }

    // ---- the soonest way home ----

    /** The least heights from which one is home, all points rounded, within so many periods. */
    private static final class Route {
        private static final int SETS = 1 << POINTS;

        private final int[] leasts = new int[PERIODS * SETS * PLACES];
        private final int[] pointBits = new int[PLACES];
        private final int[] wins = new int[PLACES];
        private final int[] way = new int[PERIODS + 1];
        private int wayCount;
        private int allPoints;
        private boolean wet;
        private Sky sky;
        private Hops hops;

        private static int spot(int left, int rounded, int place) {
            return (left * SETS + rounded) * PLACES + place;
        }

        private int leastAt(int spot) {
            return spot >= 0 && spot < leasts.length ? leasts[spot] : NEVER;
        }

        private int pointBitAt(int place) {
            return place >= 0 && place < PLACES ? pointBits[place] : 0;
        }

        private int winsAt(int place) {
            return place >= 0 && place < PLACES ? wins[place] : 0;
        }

        private void setLeast(int spot, int least) {
            if (spot >= 0 && spot < leasts.length) {
                leasts[spot] = least;
            }
        }

        /** The fewest periods till home with the lifts of these places, or NONE. */
        private int fewest(Sky under, Hops along, int lifts) {
            begin(under, along, lifts);
            Arrays.fill(leasts, NEVER);
            if (sky.homePlace == NONE) {
                return NONE;
            }
            setLeast(spot(0, allPoints, sky.homePlace), sky.places[sky.homePlace].ground);
            int rounded = pointBitAt(sky.startPlace);
            for (int left = 0; left <= sky.lastPeriod; left++) {
                if (left > 0) {
                    fillPeriods(left);
                }
                if (leastAt(spot(left, rounded, sky.startPlace)) <= sky.startHeight) {
                    return left;
                }
            }
            return NONE;
        }

        private void begin(Sky under, Hops along, int lifts) {
            sky = under;
            hops = along;
            wet = sky.startsWet();
            int points = 0;
            for (int place = 0; place < sky.placeCount; place++) {
                boolean isPoint = (sky.pointBits >> place & 1) != 0;
                pointBits[place] = isPoint ? 1 << points : 0;
                points += isPoint ? 1 : 0;
                wins[place] = (lifts >> place & 1) != 0 ? sky.wins(place, wet) : 0;
            }
            allPoints = (1 << points) - 1;
        }

        private void fillPeriods(int left) {
            for (int rounded = 0; rounded <= allPoints; rounded++) {
                for (int place = 0; place < sky.placeCount; place++) {
                    int later = leastAt(spot(left - 1, rounded, place));
                    int least = Math.min(later, leastByHops(left, rounded, place));
                    if (later != NEVER && wins[place] > 0) {
                        least = Math.min(least, Math.max(sky.places[place].ground, later - wins[place]));
                    }
                    setLeast(spot(left, rounded, place), least);
                }
            }
        }

        private int leastByHops(int left, int rounded, int place) {
            int least = NEVER;
            int group = Hops.group(place, wet);
            for (int hop = hops.firsts[group]; hop < hops.firsts[group + 1]; hop++) {
                if (hops.takes[hop] <= left) {
                    int there = leastAt(behind(hop, left, rounded));
                    int needed = Math.max(hops.leasts[hop], there + hops.losses[hop]);
                    if (there != NEVER && needed <= sky.ceiling) {
                        least = Math.min(least, needed);
                    }
                }
            }
            return least;
        }

        private int behind(int hop, int left, int rounded) {
            int to = hops.tos[hop];
            return spot(left - hops.takes[hop], rounded | pointBitAt(to), to);
        }

        /** Goes the first of the ways that take the fewest periods, which fewest() has just answered. */
        private void walk(int fewest) {
            int left = fewest;
            int place = sky.startPlace;
            int height = sky.startHeight;
            int rounded = pointBitAt(place);
            wayCount = 0;
            addToWay(place);
            for (int i = 0; i < PERIODS && left > 0; i++) {
                int higher = sky.capped(height + winsAt(place));
                if (higher > height && leastAt(spot(left - 1, rounded, place)) <= higher) {
                    height = higher;
                    left--;
                } else {
                    int hop = firstHop(left, rounded, place, height);
                    if (hop == NONE) {
                        return;
                    }
                    place = hops.tos[hop];
                    height = sky.capped(height - hops.losses[hop]);
                    rounded |= pointBitAt(place);
                    left -= hops.takes[hop];
                    addToWay(place);
                }
            }
        }

        private int firstHop(int left, int rounded, int place, int height) {
            int group = Hops.group(place, wet);
            for (int hop = hops.firsts[group]; hop < hops.firsts[group + 1]; hop++) {
                if (height >= hops.leasts[hop] && hops.takes[hop] <= left
                    && leastAt(behind(hop, left, rounded)) <= sky.capped(height - hops.losses[hop])) {
                    return hop;
                }
            }
            return NONE;
        }

        private void addToWay(int place) {
            if (wayCount < way.length) {
                way[wayCount] = place;
                wayCount++;
            }
        }
    }
}
