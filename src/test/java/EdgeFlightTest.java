/** The boundary cases that Term VII and promises 36 to 42 name: a test for each sentence that names one. The first draws of
 * 100 by a seed: 0: 0; 1: 38; 2: 8; 3: 47; 5: 55; 194: 99; 2,000,000,000: 4; of the 40 seeds from there on 23 are below 50. */
public final class EdgeFlightTest {
    private static final Due D = new Due("EdgeFlightTest");
    private static final int NOTHING = -2000000000;
    private static final int MAX = Integer.MAX_VALUE;
    private static final int MIN = Integer.MIN_VALUE;
    private static final int LAST_SEED = 2000000000;
    private static final String LEG = "place ground 3;place ground 5 home;leg 0 1 miles 5 air 0 wind 0;speed 60 sink 100;";
    /** With the lift a climb, the leg and a landing: home at 3 for 70; without a landing out for -40. */
    private static final String HOP = LEG + "lift 0 chance 50 up 200;last 6;worth home 100 period 10 out 40;start 0 at 9;";
    /** Each leg takes a period, and nothing is lost. */
    private static final String LEVEL = "place ground 0;place ground 0;leg 0 1 miles 1 air 100 wind 0;speed 60 sink 100;"
        + "last 47;start 0 at 5;";

    public static void main(String[] args) {
        drawsComeRound();
        belowTheChance();
        drawsAtEveryPlace();
        theMostDeeds();
        noSuchFlight();
        noOtherDeedOfAFlight();
        deedsAheadOfAny();
        endsAheadOfAny();
        homeFieldOut();
        theLatestStays();
        noSuchJudge();
        nothingToJudge();
        rowsOfNoneAndSixty();
        aLandingEndsIt();
        deedsThatAreNone();
        deedsAtTheirEdges();
        noSuchFlights();
        oneFlightAndForty();
        seedsBeyondTheGreatest();
        noSuchSpread();
        D.finish();
    }

    private static int judged(LastCloud x, int seed, long... row) {
        x.row(0, 3, row.length);
        for (int i = 0; i < row.length; i++) {
            x.write(0, i, row[i]);
        }
        return x.judge(0, seed);
    }

    /** "x becomes (1103515245 x + 12345) modulo 2,147,483,648 ..; a draw of n: x / 65536, cut, modulo n": by seed 2 x is
     * 59,559,187, that by 65536 is 908, and 8; by seed 2,000,000,000 x is 216,544,313, 3,304, and 4. */
    private static void drawsComeRound() {
        int[] seeds = {0, 1, 2, 3, 5, 194, LAST_SEED};
        int[] draws = {0, 38, 8, 47, 55, 99, 4};
        for (int i = 0; i < seeds.length; i++) {
            LastCloud below = Skies.under(HOP.replace("chance 50", "chance " + draws[i]));
            D.due("seed " + seeds[i] + " is not below " + draws[i], below.fly(0, seeds[i]), 1);
            LastCloud above = Skies.under(HOP.replace("chance 50", "chance " + (draws[i] + 1)));
            D.due("seed " + seeds[i] + " is below " + (draws[i] + 1), above.fly(0, seeds[i]), 3);
        }
    }

    /** "the LIFT is there, if it is below the CHANCE": 0 never, 100 always. */
    private static void belowTheChance() {
        LastCloud never = Skies.under(HOP.replace("chance 50", "chance 0"));
        LastCloud always = Skies.under(HOP.replace("chance 50", "chance 100"));
        for (int seed : new int[] {0, 1, 2, 194, 225, LAST_SEED}) {
            never.fly(0, seed);
            D.due("never", never.flown(0, 4), 0);
            always.fly(0, seed);
            D.due("always", always.flown(0, 4), 1);
        }
        always.sight(0, 1);
        always.fly(0, 0);
        D.due("the chance as it is known", always.flown(0, 4), 0);
    }

    /** "At the START and behind each LEG a draw of 100", also where no LIFT is told: by seed 0 0, 68, 88, 17, 98. */
    private static void drawsAtEveryPlace() {
        String sky = "place ground 0;place ground 0;leg 0 1 miles 1 air 100 wind 0;speed 60 sink 100;last 9;start 0 at 5;"
            + "lift 1 chance ";
        D.due("68 is below 69", judged(Skies.under(sky + "69 up 200;"), 0, 100, 0), 2);
        D.due("68 is not below 68", judged(Skies.under(sky + "68 up 200;"), 0, 100, 0), 1);
        D.due("17 is below 18", judged(Skies.under(sky + "18 up 200;"), 0, 100, 100, 100, 0), 4);
        D.due("17 is not below 17", judged(Skies.under(sky + "17 up 200;"), 0, 100, 100, 100, 0), 3);
        // a climb draws nothing: it is still there
        D.due("climbs", judged(Skies.under(sky + "69 up 20;"), 0, 100, 0, 0, 0), 4);
    }

    /** A flight lets go, climbs in 46 periods, flies in the last one and lands: 49 deeds, "(100 at most ..)". */
    private static void theMostDeeds() {
        LastCloud x = Skies.under("place ground 0;place ground 0 home;leg 0 1 miles 1 air 0 wind 0;speed 60 sink 100;"
            + "lift 0 chance 100 up 20;water 10;last 47;ceiling 60;worth home 1000 period 0 out 0;start 0 at 0 wet;");
        D.due("deeds", x.fly(0, 194), 49);
        D.due("lets go", x.flown(0, 0), 1);
        D.due("at once", x.flown(1, 3), 0);
        D.due("climbs", x.flown(1, 0), 0);
        D.due("climbs", x.flown(46, 0), 0);
        D.due("flies", x.flown(47, 0), 100);
        D.due("from 46", x.flown(47, 2), 46);
        D.due("at 46", x.flown(47, 3), 46);
        D.due("lands", x.flown(48, 0), -1);
        D.due("at home", x.flown(48, 1), 1);
        D.due("no more", x.flown(49, 1), -1);
        D.due("at the last period", x.landed(2), 47);
        D.due("5 lower", x.landed(1), 41);
    }

    /** fly: "from a seed (0 .. 2,000,000,000)"; "-2: there are none such, no START." */
    private static void noSuchFlight() {
        LastCloud x = Skies.under(HOP);
        for (int none : new int[] {-1, 4, MAX, MIN}) {
            D.due("rule " + none, x.fly(none, 0), -2);
        }
        for (int none : new int[] {-1, LAST_SEED + 1, MAX, MIN}) {
            D.due("seed " + none, x.fly(0, none), -2);
        }
        D.due("none has flown", x.landed(0), -1);
        D.due("the least seed", x.fly(0, 0), 3);
        D.due("the greatest seed", x.fly(0, LAST_SEED), 3);
        for (int rule = 0; rule < 4; rule++) {
            D.due("rule " + rule, x.fly(rule, 0), 3);
            D.due("no start", Skies.under(LEG).fly(rule, 0), -2);
            D.due("no sky", new LastCloud().fly(rule, 0), -2);
        }
    }

    /** flown: "NONE for others": DEEDS 0 .. the last one, what 0 .. 4. */
    private static void noOtherDeedOfAFlight() {
        LastCloud x = Skies.under(HOP);
        x.fly(0, 0);
        int[][] deeds = {{0, 0, 9, 0, 1}, {100, 0, 19, 1, 1}, {-1, 1, 9, 3, 0}};
        for (int i = 0; i < 3; i++) {
            for (int what = 0; what < 5; what++) {
                D.due("flown(" + i + ", " + what + ")", x.flown(i, what), deeds[i][what]);
            }
            for (int none : new int[] {-1, 5, MAX, MIN}) {
                D.due("flown(" + i + ", " + none + ")", x.flown(i, none), -1);
            }
        }
        for (int none : new int[] {-1, 3, 100, MAX, MIN}) {
            for (int what = 0; what < 5; what++) {
                D.due("flown(" + none + ", " + what + ")", x.flown(none, what), -1);
            }
        }
        D.due("a shorter one", x.fly(0, 5), 1);
        D.due("has one deed", x.flown(1, 1), -1);
    }

    /** flown: ahead of any flight there is no DEED. */
    private static void deedsAheadOfAny() {
        LastCloud x = Skies.under(HOP);
        for (int what = 0; what < 5; what++) {
            D.due("flown(0, " + what + ")", x.flown(0, what), -1);
        }
    }

    /** landed: "NONE for others, and ahead of any." */
    private static void endsAheadOfAny() {
        LastCloud x = Skies.under(HOP);
        for (int what = -1; what < 6; what++) {
            D.due("ahead of any " + what, x.landed(what), -1);
        }
        x.fly(0, 0);
        int[] end = {1, 9, 3, 70, 1};
        for (int what = 0; what < 5; what++) {
            D.due("landed(" + what + ")", x.landed(what), end[what]);
        }
        for (int none : new int[] {-1, 5, MAX, MIN}) {
            D.due("landed(" + none + ")", x.landed(none), -1);
        }
    }

    /** landed: "4: 1 home, 2 a field, 3 out". */
    private static void homeFieldOut() {
        String[] places = {"place ground 7 home;", "place ground 7 field 0;", "place ground 7;"};
        int[] worths = {1000, 0, 0};
        for (int i = 0; i < 3; i++) {
            LastCloud x = Skies.under(places[i] + "start 0 at 0;");
            D.due("a landing alone", x.fly(0, 0), 1);
            int[] end = {0, 7, 0, worths[i], i + 1};
            for (int what = 0; what < 5; what++) {
                D.due("landed(" + what + ")", x.landed(what), end[what]);
            }
        }
    }

    /** "the latest flight": of fly() alone, and none that could not be. */
    private static void theLatestStays() {
        LastCloud x = Skies.under(HOP);
        x.fly(0, 0);
        x.fly(0, -1);
        x.fly(4, 5);
        x.flights(0, 5, 1);
        x.sum(0, 5, 1);
        x.spread(0, 5, 1, 0);
        judged(x, 5, -1);
        D.due("its deed", x.flown(0, 0), 0);
        D.due("its end", x.landed(3), 70);
    }

    // ---- promise 39 ----

    /** judge: "-2: there are none such, no START": also where the SLOT has nothing. */
    private static void noSuchJudge() {
        LastCloud x = Skies.under(HOP);
        x.row(0, 0, 1);
        for (int none : new int[] {-1, 4, MAX, MIN}) {
            D.due("slot " + none, x.judge(none, 0), -2);
        }
        for (int none : new int[] {-1, LAST_SEED + 1, MAX, MIN}) {
            D.due("seed " + none, x.judge(0, none), -2);
            D.due("seed " + none + " of nothing", x.judge(1, none), -2);
        }
        D.due("the least seed", x.judge(0, 0), 1);
        D.due("the greatest seed", x.judge(0, LAST_SEED), 1);
        D.due("no start, nothing", Skies.under(LEG).judge(0, 0), -2);
        D.due("no start, a row", judged(Skies.under(LEG), 0, -1), -2);
        D.due("no sky", judged(new LastCloud(), 0, -1), -2);
    }

    /** judge: "-6: it has nothing." */
    private static void nothingToJudge() {
        LastCloud x = Skies.under(HOP);
        for (int slot = 0; slot < 4; slot++) {
            D.due("slot " + slot, x.judge(slot, 0), -6);
            x.row(slot, slot, 1);
            D.due("slot " + slot + " has a climb", x.judge(slot, 0), 1);
        }
    }

    /** A row of no numbers is a row; one of 60 is judged to its end, or till the PERIODS are gone. */
    private static void rowsOfNoneAndSixty() {
        LastCloud x = Skies.under(LEVEL);
        D.due("none", judged(x, 0), 0);
        long[] sixty = new long[60];
        java.util.Arrays.fill(sixty, 100);
        D.due("47 periods", judged(x, 0, sixty), 47);
        sixty[47] = -1;
        D.due("and a landing", judged(x, 0, sixty), 48);
        D.due("the 60 are there", x.write(0, 59, 5), 0);
    }

    /** "(a landing ends it)": it can be done, what is behind it can't. */
    private static void aLandingEndsIt() {
        LastCloud x = Skies.under(LEVEL);
        D.due("first", judged(x, 0, -1, 100, 100), 1);
        D.due("once", judged(x, 0, -1, -1), 1);
        D.due("last", judged(x, 0, 100, 100, -1), 3);
        D.due("between", judged(x, 0, 100, -1, 100), 2);
    }

    /** "it can be done, if it is one of V there": numbers that are no DEED are none. */
    private static void deedsThatAreNone() {
        LastCloud x = Skies.under(LEVEL + "water 20;");
        for (long none : new long[] {-2, 2, 10, 99, 101, 106, 110, 199, 200, 1000, 100 + (1L << 32), -1 + (1L << 32),
            1L << 32, Long.MIN_VALUE, Long.MAX_VALUE, MIN, MAX}) {
            D.due("no deed " + none, judged(x, 0, 100, none, 100), 1);
        }
        // leg 9 by speed 5 is the last that there can be
        StringBuilder most = new StringBuilder("place ground 0;place ground 0;start 0 at 5;");
        for (int i = 0; i < 10; i++) {
            most.append("leg 0 1 miles 1 air 100 wind 0;").append(i < 6 ? "speed 60 sink 100;" : "");
        }
        LastCloud all = Skies.under(most.toString());
        D.due("195 and 190, 105 and 100", judged(all, 0, 195, 190, 105, 100), 4);
        D.due("196", judged(all, 0, 196), 0);
        D.due("200", judged(all, 0, 200), 0);
        D.due("205", judged(all, 0, 205), 0);
        // leg 1 can be flown by speed 0 alone, leg 0 by none
        LastCloud one = Skies.under("place ground 0;place ground 0;leg 0 1 miles 1 air 0 wind 60 down;"
            + "leg 0 1 miles 1 air 100 wind 20 down;speed 21 sink 100;speed 20 sink 100;start 0 at 5;");
        long[] deeds = {100, 101, 102, 109, 110, 111, 112, 119, 120};
        for (long deed : deeds) {
            // 12 by 1 and 1 periods
            D.due("deed " + deed, judged(one, 0, deed), deed == 110 ? 1 : 0);
        }
    }

    /** "one of V there": a climb, water, a leg, each at its edge. */
    private static void deedsAtTheirEdges() {
        LastCloud x = Skies.under(HOP);
        D.due("no lift by seed 5", judged(x, 5, 0), 0);
        D.due("no water", judged(x, 0, 1), 0);
        D.due("too low for the leg", judged(x, 0, 100), 0);
        D.due("to the ceiling: 19, 29, 39, 40", judged(x, 0, 0, 0, 0, 0, 0), 4);
        D.due("at the edge", judged(Skies.under(HOP.replace("at 9", "at 15")), 5, 100, -1), 2);
        D.due("below it", judged(Skies.under(HOP.replace("at 9", "at 14")), 5, 100, -1), 0);
        String two = HOP.replace("at 9", "at 40");
        D.due("two legs and one more to the last period", judged(Skies.under(two), 5, 100, 100, 100), 3);
        D.due("a period too few", judged(Skies.under(two.replace("last 6", "last 5")), 5, 100, 100, 100), 2);
        D.due("at the last period one lands", judged(Skies.under(two), 5, 100, 100, 100, -1), 4);
        // 10 are lost: half of them is 5
        String hill = LEG.replace("wind 0", "wind 0 hill 20") + "start 0 at ";
        D.due("over the hill", judged(Skies.under(hill + "25;"), 5, 100), 1);
        D.due("not over it", judged(Skies.under(hill + "24;"), 5, 100), 0);
        D.due("from elsewhere", judged(Skies.under(LEVEL + "place ground 0;leg 1 2 miles 1 air 0 wind 0;"), 0, 110), 0);
    }

    // ---- promises 40 to 42 ----

    /** "Of n flights (1 .. 40) .. -2 as fly()"; sum: "NOTHING as -2 there". */
    private static void noSuchFlights() {
        LastCloud x = Skies.under(HOP);
        int[][] bad = {{-1, 0, 1}, {4, 0, 1}, {MAX, 0, 1}, {0, -1, 1}, {0, LAST_SEED + 1, 1}, {0, MAX, 40}, {0, MIN, 1},
            {0, 0, 0}, {0, 0, 41}, {0, 0, -1}, {0, 0, MAX}, {0, 0, MIN}};
        for (int[] b : bad) {
            D.due("flights", x.flights(b[0], b[1], b[2]), -2);
            D.due("sum", x.sum(b[0], b[1], b[2]), NOTHING);
            for (int what = 0; what < 5; what++) {
                D.due("spread", x.spread(b[0], b[1], b[2], what), NOTHING);
            }
        }
        for (LastCloud none : new LastCloud[] {new LastCloud(), Skies.under(LEG)}) {
            D.due("no start", none.flights(0, 0, 1), -2);
            D.due("no start", none.sum(0, 0, 1), NOTHING);
            D.due("no start", none.spread(0, 0, 1, 0), NOTHING);
        }
    }

    /** "n flights (1 .. 40) .. from seeds, the seed and 1, ..": of seeds 0 .. 39 21 are below 50. */
    private static void oneFlightAndForty() {
        LastCloud x = Skies.under(HOP);
        D.due("one home", x.flights(0, 0, 1), 1);
        D.due("its worth", x.sum(0, 0, 1), 70);
        D.due("one out", x.flights(0, 5, 1), 0);
        D.due("its worth", x.sum(0, 5, 1), -40);
        int[] out = {-40, -40, 1, 0, 1};
        int[] home = {70, 70, 0, 3, 3};
        int[] forty = {-40, 70, 19, 63, 3};
        for (int what = 0; what < 5; what++) {
            D.due("one out, " + what, x.spread(0, 5, 1, what), out[what]);
            D.due("one home, " + what, x.spread(0, 0, 1, what), home[what]);
            D.due("forty, " + what, x.spread(0, 0, 40, what), forty[what]);
        }
        D.due("forty", x.flights(0, 0, 40), 21);
        D.due("their worths", x.sum(0, 0, 40), 21 * 70 - 19 * 40);
    }

    /** The seed is 2,000,000,000 at most; those behind it go on beyond that. */
    private static void seedsBeyondTheGreatest() {
        LastCloud x = Skies.under(HOP);
        D.due("forty", x.flights(0, LAST_SEED, 40), 23);
        D.due("their worths", x.sum(0, LAST_SEED, 40), 23 * 70 - 17 * 40);
        D.due("out", x.spread(0, LAST_SEED, 40, 2), 17);
        D.due("periods", x.spread(0, LAST_SEED, 40, 3), 69);
    }

    /** spread: "what 0 .. 4 .. NOTHING as there." */
    private static void noSuchSpread() {
        LastCloud x = Skies.under(HOP);
        for (int none : new int[] {-1, 5, MAX, MIN}) {
            D.due("what " + none, x.spread(0, 0, 1, none), NOTHING);
        }
    }
}
