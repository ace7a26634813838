/** The boundary cases that Terms V and VI and promises 19 to 28 and 31 to 35 name: a test for each sentence that names one. */
public final class EdgeRuleTest {
    private static final Due D = new Due("EdgeRuleTest");
    private static final int NOTHING = -2000000000;
    private static final int MAX = Integer.MAX_VALUE;
    private static final int MIN = Integer.MIN_VALUE;
    /** The leg takes 2 periods and 10 steps: from 0 to 1 one must be 15 high, back 13. */
    private static final String LEG = "place ground 3;place ground 5 home;leg 0 1 miles 5 air 0 wind 0;speed 60 sink 100;";
    /** A climb at 0 wins 10. */
    private static final String HOP = LEG + "lift 0 chance 50 up 200;last 6;worth home 100 period 10 out 40;start 0 at 9;";
    /** Periods cost nothing. */
    private static final String FREE = LEG + "worth home 100 period 0 out 0;";

    public static void main(String[] args) {
        heightsOfStates();
        periodsOfStates();
        placesAndRulesOfStates();
        waterOfStates();
        climbingNeedsAPeriod();
        climbingGoesHigher();
        lettingGoNeedsWater();
        legsNeedTheirPeriods();
        legsNeedTheGround();
        legsNeedTheirHill();
        landingsBelowZero();
        worthsAreCutTowardsZero();
        theFirstOfSeveral();
        legsByNumberThenSpeeds();
        safeToTheEdge();
        safeWithWater();
        soonestHomeOrZero();
        fastByOneAtLeast();
        fastByAHundred();
        homeOrNot();
        noSuchStart();
        noSuchCost();
        leftNever();
        leftFromGroundToCeiling();
        noSuchLeave();
        lastPeriods();
        noSuchLast();
        weakFromTheLeast();
        weakByNone();
        noSuchWeak();
        endsThatMayBe();
        endsOfAllDeeds();
        noSuchEnds();
        knowledgeOfTheSure();
        noSuchKnowledge();
        knownIsCut();
        waterIsWorth();
        neverDropped();
        droppedAtOnce();
        droppedLater();
        D.finish();
    }

    private static void state(LastCloud x, int rule, int place, int height, int period, boolean lift, boolean wet,
        int worth, int deed, int home) {
        String call = "(" + rule + ", " + place + ", " + height + ", " + period + ", " + lift + ", " + wet + ")";
        D.due("worth" + call, x.worth(rule, place, height, period, lift, wet), worth);
        D.due("deed" + call, x.deed(rule, place, height, period, lift, wet), deed);
        D.due("home" + call, x.home(rule, place, height, period, lift, wet), home);
    }

    private static void noState(LastCloud x, int rule, int place, int height, int period, boolean wet) {
        state(x, rule, place, height, period, false, wet, NOTHING, -2, -2);
        state(x, rule, place, height, period, true, wet, NOTHING, -2, -2);
    }

    // ---- states ----

    /** "PLACE, height (its ground or more)"; "NOTHING: there are none such, a PLACE below the ground"; the ceiling. */
    private static void heightsOfStates() {
        LastCloud x = Skies.under(HOP);
        for (int rule = 0; rule < 4; rule++) {
            int worth = rule == 2 ? 0 : -40;
            state(x, rule, 0, 3, 0, false, false, worth, -1, 0);
            noState(x, rule, 0, 2, 0, false);
            noState(x, rule, 1, 4, 0, false);
            noState(x, rule, 0, 0, 0, false);
            noState(x, rule, 0, -1, 0, false);
            state(x, rule, 1, 5, 0, false, false, rule == 2 ? 10000 : 100, -1, 10000);
            state(x, rule, 1, 40, 0, true, false, rule == 2 ? 10000 : 100, -1, 10000);
            noState(x, rule, 1, 41, 0, false);
            noState(x, rule, 1, 61, 0, false);
            noState(x, rule, 1, MAX, 0, false);
            noState(x, rule, 1, MIN, 0, false);
        }
        state(Skies.under(HOP + "ceiling 60;"), 0, 1, 60, 0, false, false, 100, -1, 10000);
        noState(Skies.under(HOP + "ceiling 31;"), 0, 1, 32, 0, false);
    }

    /** "PERIODS 0 .. the last one". */
    private static void periodsOfStates() {
        LastCloud x = Skies.under(HOP);
        state(x, 0, 1, 5, 6, false, false, 40, -1, 10000);
        noState(x, 0, 1, 5, 7, false);
        noState(x, 0, 1, 5, -1, false);
        noState(x, 0, 1, 5, MAX, false);
        noState(x, 0, 1, 5, MIN, false);
        x = Skies.under(HOP.replace("last 6", "last 47"));
        state(x, 0, 1, 5, 47, false, false, -370, -1, 10000);
        noState(x, 0, 1, 5, 48, false);
    }

    /** "WORTH (V) by a RULE (0 best, 1 safe, 2 soonest home, 3 fast) .. at a PLACE". */
    private static void placesAndRulesOfStates() {
        LastCloud x = Skies.under(HOP);
        for (int none : new int[] {-1, 4, MAX, MIN}) {
            noState(x, none, 0, 9, 0, false);
        }
        for (int none : new int[] {-1, 2, 8, MAX, MIN}) {
            noState(x, 0, none, 9, 0, false);
        }
        noState(new LastCloud(), 0, 0, 9, 0, false);
    }

    /** "No water is had, if water is 0: a STATE with it is none." */
    private static void waterOfStates() {
        noState(Skies.under(HOP), 0, 1, 9, 0, true);
        noState(Skies.under(HOP + "water 0;"), 0, 1, 9, 0, true);
        state(Skies.under(HOP + "water 1;"), 0, 1, 9, 0, false, true, 100, -1, 10000);
        LastCloud x = Skies.under(HOP.replace("at 9", "at 9 wet"));
        D.due("a start without water all the same", x.start(0), 15);
        D.due("none is let go", x.drop(), -1);
        D.due("leave", x.leave(0, 0, true), -2);
        D.due("on", x.on(0, 0, true), -2);
        D.due("water()", x.water(), 0);
    }

    // ---- deeds ----

    /** "climbing (.. a PERIOD is left ..)": by a climb at 3 one is home at 6, the last one; at 6 none is left. */
    private static void climbingNeedsAPeriod() {
        LastCloud x = Skies.under(HOP);
        state(x, 0, 0, 9, 3, true, false, 40, 0, 10000);
        state(x, 0, 0, 9, 4, true, false, -40, -1, 0);
        state(x, 0, 0, 9, 6, true, false, -40, -1, 0);
        LastCloud row = Skies.under(HOP.replace("last 6", "last 1"));
        row.row(0, 0, 2);
        D.due("at 0 a climb is done, at 1 none", row.judge(0, 0), 1);
    }

    /** "climbing (the LIFT is there .. one is higher then)": not at the ceiling, not by a lift that wins 0. */
    private static void climbingGoesHigher() {
        LastCloud x = Skies.under(FREE + "lift 0 chance 50 up 20;");
        state(x, 0, 0, 39, 0, true, false, 100, 0, 10000);
        state(x, 0, 0, 40, 0, true, false, 100, 100, 10000);
        state(x, 0, 0, 39, 0, false, false, 100, 100, 10000);
        x = Skies.under(FREE + "lift 0 chance 50 up 19;");
        state(x, 0, 0, 39, 0, true, false, 100, 100, 10000);
        x = Skies.under(FREE + "lift 0 chance 50 up 2000;");
        state(x, 0, 0, 39, 0, true, false, 100, 0, 10000);
        state(x, 0, 0, 40, 0, true, false, 100, 100, 10000);
        state(Skies.under(FREE), 0, 0, 39, 0, true, false, 100, 100, 10000);
    }

    /** "letting the water go (it has some): without, at once", at the last period too. */
    private static void lettingGoNeedsWater() {
        // with water a climb wins 0 (0.5), without 6; the leg takes 1 and 5 with it, 2 and 10 without
        LastCloud x = Skies.under(FREE + "water 50;turn 100;lift 0 chance 50 up 220;last 3;");
        state(x, 0, 0, 9, 0, true, true, 100, 1, 10000);
        state(x, 0, 0, 9, 0, false, true, 0, -1, 0);
        state(x, 0, 0, 10, 0, false, true, 100, 100, 10000);
        state(x, 0, 0, 10, 0, true, false, 100, 0, 10000);
        x = Skies.under(HOP + "water 50;");
        x.row(0, 0, 2);
        x.write(0, 0, 1);
        D.due("a dry start has none", x.judge(0, 0), 0);
        x = Skies.under(HOP.replace("at 9", "at 9 wet") + "water 50;");
        x.row(0, 0, 2);
        x.write(0, 0, 1);
        x.write(0, 1, 1);
        D.due("once", x.judge(0, 0), 1);
    }

    /** "each LEG .. if .. its PERIODS are left": "if the last one is not gone beyond". */
    private static void legsNeedTheirPeriods() {
        LastCloud x = Skies.under(HOP);
        state(x, 0, 0, 15, 4, false, false, 40, 100, 10000);
        state(x, 0, 0, 15, 5, false, false, -40, -1, 0);
        state(x, 0, 0, 15, 6, false, false, -40, -1, 0);
        state(Skies.under(HOP.replace("last 6", "last 2")), 0, 0, 15, 0, false, false, 80, 100, 10000);
        state(Skies.under(HOP.replace("last 6", "last 1")), 0, 0, 15, 0, false, false, -40, -1, 0);
        // 721 periods are beyond any last one
        x = Skies.under("place ground 0;place ground 0 home;leg 0 1 miles 60 air 999 wind 19 down;speed 20 sink 1;last 47;");
        state(x, 0, 0, 40, 0, false, false, 0, -1, 0);
    }

    /** "the height there is the ground's or more". */
    private static void legsNeedTheGround() {
        LastCloud x = Skies.under(HOP);
        state(x, 0, 0, 15, 0, false, false, 80, 100, 10000);
        state(x, 0, 0, 14, 0, false, false, -40, -1, 0);
        x = Skies.under(HOP.replace("ground 3;", "ground 3 home;").replace("5 home", "5"));
        state(x, 0, 1, 13, 0, false, false, 80, 100, 10000);
        state(x, 0, 1, 12, 0, false, false, -40, -1, 0);
    }

    /** "if it can be flown (over its hill, too)": half of 10 is 5. */
    private static void legsNeedTheirHill() {
        LastCloud x = Skies.under(HOP.replace("wind 0", "wind 0 hill 20"));
        state(x, 0, 0, 25, 0, false, false, 80, 100, 10000);
        state(x, 0, 0, 24, 0, false, false, -40, -1, 0);
        x = Skies.under(HOP.replace("wind 0", "wind 60 down"));
        state(x, 0, 0, 40, 0, false, false, -40, -1, 0);
    }

    /** "WORTH of a landing: home: home less period times the PERIOD; a field: ..; else 0 less out": below 0 too. */
    private static void landingsBelowZero() {
        LastCloud x = Skies.under("place ground 0 home;place ground 0 field 0;place ground 0;place ground 0 field 999;"
            + "worth home 9 period 10 out 9999;");
        state(x, 0, 0, 0, 0, false, false, 9, -1, 10000);
        state(x, 0, 0, 0, 1, false, false, -1, -1, 10000);
        state(x, 0, 0, 0, 40, false, false, -391, -1, 10000);
        state(x, 0, 1, 0, 0, false, false, 0, -1, 0);
        state(x, 0, 1, 0, 40, false, false, -400, -1, 0);
        state(x, 0, 2, 0, 0, false, false, -9999, -1, 0);
        state(x, 0, 2, 0, 40, false, false, -9999, -1, 0);
        state(x, 0, 3, 0, 40, false, false, 599, -1, 0);
    }

    /** "by 100, cut towards 0": 50 of 0 and 50 of -3 is -1.5. */
    private static void worthsAreCutTowardsZero() {
        String sky = HOP.replace("home 100 period 10 out 40", "home 0 period 0 out 3");
        D.due("-1.5", Skies.under(sky).start(0), -1);
        D.due("66 of 0, 34 of -3: -1.02", Skies.under(sky.replace("50", "66")).start(0), -1);
        D.due("67 of 0, 33 of -3: -0.99", Skies.under(sky.replace("50", "67")).start(0), 0);
        D.due("0 of 0, 100 of -3", Skies.under(sky.replace("50", "0")).start(0), -3);
        D.due("100 of 0", Skies.under(sky.replace("50", "100")).start(0), 0);
        sky = HOP.replace("home 100 period 10 out 40", "home 1 period 0 out 0");
        D.due("0.5", Skies.under(sky).start(0), 0);
        D.due("0.99", Skies.under(sky.replace("50", "99")).start(0), 0);
    }

    // ---- rules ----

    /** "DEEDS, in this order"; "that of the greatest WORTH by this RULE, the first of several". */
    private static void theFirstOfSeveral() {
        String all = LEG + "water 1;lift 0 chance 50 up 400;worth home ";
        // landing is as good as all else
        state(Skies.under(all + "0 period 0 out 0;"), 0, 0, 20, 0, true, true, 0, -1, 0);
        // climbing, letting go and the leg are alike
        LastCloud x = Skies.under(all + "5 period 0 out 0;");
        state(x, 0, 0, 20, 0, true, true, 5, 0, 10000);
        state(x, 0, 0, 40, 0, true, true, 5, 1, 10000);
        state(x, 0, 0, 20, 0, false, true, 5, 1, 10000);
        state(x, 0, 0, 40, 0, true, false, 5, 100, 10000);
        // one more in worth is greater
        state(Skies.under(all + "1 period 0 out 0;"), 0, 0, 20, 0, true, true, 1, 0, 10000);
    }

    /** "each LEG from here (by its number), each SPEED". */
    private static void legsByNumberThenSpeeds() {
        String two = "place ground 0;place ground 0 home;worth home 100 period 10 out 0;";
        LastCloud x = Skies.under(two + "speed 30 sink 1;speed 60 sink 1;speed 60 sink 1;leg 0 1 miles 10 air 0 wind 0;"
            + "leg 1 0 miles 5 air 0 wind 0;leg 0 1 miles 5 air 0 wind 0;");
        // legs 1 and 2 by speeds 1 and 2 take 2 periods
        state(x, 0, 0, 9, 0, false, false, 80, 111, 10000);
        x = Skies.under(two + "speed 60 sink 1;leg 0 1 miles 5 air 0 wind 0;leg 0 1 miles 4 air 0 wind 0;"
            + "leg 0 1 miles 4 air 0 wind 0;");
        state(x, 0, 0, 9, 0, false, false, 90, 110, 10000);
        StringBuilder most = new StringBuilder(two + "speed 20 sink 1;speed 20 sink 1;speed 20 sink 1;speed 20 sink 1;"
            + "speed 20 sink 1;speed 60 sink 1;");
        for (int i = 0; i < 9; i++) {
            most.append("leg 0 1 miles 60 air 0 wind 0;");
        }
        state(Skies.under(most + "leg 1 0 miles 4 air 0 wind 0;"), 0, 0, 9, 0, false, false, 90, 195, 10000);
    }

    /** RULE 1: "those LEGS behind which a PLACE to land at is reached (III, as one is then)": at its edge, not below. */
    private static void safeToTheEdge() {
        // 10 are lost to 1, which has a lift surely, and 10 from there to 2
        String sky = "place ground 0 field 5;place ground 0;place ground 0 home;leg 0 1 miles 5 air 0 wind 0;"
            + "leg 1 2 miles 5 air 0 wind 0;speed 60 sink 100;lift 1 chance 100 up 400;worth home 100 period 0 out 0;";
        LastCloud x = Skies.under(sky);
        D.due("the edge of 1", x.edge(1, false), 10);
        state(x, 1, 0, 20, 0, false, false, 100, 100, 10000);
        state(x, 1, 0, 19, 0, false, false, 5, -1, 0);
        state(x, 0, 0, 19, 0, false, false, 100, 100, 10000);
        // a field on the other side is one to land at: leg 0 is safe to its ground
        x = Skies.under(sky.replace("ground 0;place", "ground 0 field 0;place"));
        state(x, 1, 0, 10, 0, false, false, 100, 100, 10000);
        state(x, 1, 0, 9, 0, false, false, 5, -1, 0);
        // where none is to land at, no leg is safe
        x = Skies.under("place ground 0;place ground 0;leg 0 1 miles 5 air 0 wind 0;speed 60 sink 100;");
        state(x, 1, 0, 40, 0, false, false, 0, -1, 0);
    }

    /** "(III, as one is then)": with water, if one has it then; climbing and letting go stay safe. */
    private static void safeWithWater() {
        LastCloud x = Skies.under("water 20;place ground 0 field 5;place ground 0;place ground 0 home;leg 0 1 miles 5 air 0 wind 0;"
            + "leg 1 2 miles 5 air 0 wind 0;speed 60 sink 100;worth home 100 period 0 out 0;");
        D.due("with water 5 are lost", x.edge(1, true), 5);
        D.due("without 10", x.edge(1, false), 10);
        state(x, 1, 0, 10, 0, false, true, 100, 100, 10000);
        state(x, 1, 0, 9, 0, false, true, 5, -1, 0);
        state(x, 1, 0, 20, 0, false, false, 100, 100, 10000);
        state(x, 1, 0, 19, 0, false, false, 5, -1, 0);
        state(x, 1, 0, 20, 0, false, true, 100, 1, 10000);
    }

    /** RULE 2: "WORTH of a landing is 10,000 less the PERIOD at home, else 0". */
    private static void soonestHomeOrZero() {
        LastCloud x = Skies.under("place ground 0 field 999;place ground 0 home;place ground 0;leg 0 1 miles 5 air 0 wind 0;"
            + "speed 60 sink 100;worth home 0 period 99 out 9999;last 47;");
        state(x, 2, 1, 9, 0, false, false, 10000, -1, 10000);
        state(x, 2, 1, 9, 47, false, false, 9953, -1, 10000);
        state(x, 2, 0, 9, 0, false, false, 0, -1, 0);
        state(x, 2, 2, 9, 47, false, false, 0, -1, 0);
        state(x, 2, 0, 10, 0, false, false, 9998, 100, 10000);
        state(x, 0, 0, 10, 0, false, false, 999, -1, 0);
    }

    /** RULE 3: "up less turn, 1 at least": by 1 the speed 20 (20 by 2) is faster than 150 (150 by 16), by 2 it is not. */
    private static void fastByOneAtLeast() {
        String sky = "place ground 0;place ground 0 home;leg 0 1 miles 1 air 0 wind 0;speed 20 sink 1;speed 150 sink 15;"
            + "worth home 100 period 0 out 0;turn 10;lift 1 chance 0 up ";
        int[] ups = {0, 9, 10, 11, 12, 2000};
        int[] deeds = {100, 100, 100, 100, 101, 101};
        for (int i = 0; i < ups.length; i++) {
            state(Skies.under(sky + ups[i] + ";"), 3, 0, 20, 0, false, false, 100, deeds[i], 10000);
        }
        // 150 sinking 13 is faster by 1 (20 by 2 and 150 by 14), by 0 it would not be
        for (int up = 0; up < 12; up++) {
            state(Skies.under(sky.replace("sink 15", "sink 13") + up + ";"), 3, 0, 20, 0, false, false, 100, 101, 10000);
        }
        // by each LEG likewise, to the last of ten by the last of six SPEEDS: by 25, less the more LEGS there are
        String most = "place ground 0;place ground 0 home;speed 20 sink 1;speed 21 sink 1;speed 22 sink 1;speed 23 sink 1;"
            + "speed 24 sink 1;speed 25 sink 1;worth home 100 period 1 out 0;";
        int[] periods = {29, 26, 24, 21, 18, 15, 12, 9, 6, 3};
        for (int i = 0; i < 10; i++) {
            most += "leg 0 1 miles " + (60 - 6 * i) + " air 0 wind 0;";
            state(Skies.under(most), 3, 0, 20, 0, false, false, 100 - periods[i], 105 + 10 * i, 10000);
        }
    }

    /** RULE 3: "100 without a LIFT; of the PLACE to which it leads": 21 by 120 and 35 by 200 are alike. */
    private static void fastByAHundred() {
        String sky = "place ground 0;place ground 0 home;leg 0 1 miles 1 air 0 wind 0;worth home 100 period 0 out 0;";
        String slow = "speed 21 sink 20;";
        String quick = "speed 35 sink 100;";
        D.due("the first", Skies.under(sky + slow + quick).deed(3, 0, 20, 0, false, false), 100);
        D.due("the first", Skies.under(sky + quick + slow).deed(3, 0, 20, 0, false, false), 100);
        D.due("by 101", Skies.under(sky + slow + quick + "lift 1 chance 0 up 101;").deed(3, 0, 20, 0, false, false), 101);
        D.due("by 99", Skies.under(sky + quick + slow + "lift 1 chance 0 up 99;").deed(3, 0, 20, 0, false, false), 101);
        D.due("where one is tells nothing", Skies.under(sky + slow + quick + "lift 0 chance 0 up 2000;")
            .deed(3, 0, 20, 0, false, false), 100);
        // a lift of chance 0 that is told tells; so does one that has been seen not to be there
        LastCloud x = Skies.under(sky + slow + quick + "lift 1 chance 100 up 101;");
        x.sight(1, 1);
        D.due("not there", x.deed(3, 0, 20, 0, false, false), 101);
    }

    /** "HOME: 10,000 if one lands at home, else 0; by CHANCE likewise": cut. */
    private static void homeOrNot() {
        // by 33 in the hundred a lift wins 20 at 1
        String sky = "place ground 0;place ground 0;place ground 0;place ground 0 home;leg 0 1 miles 5 air 0 wind 0;"
            + "leg 1 2 miles 5 air 0 wind 0;leg 2 3 miles 5 air 0 wind 0;speed 60 sink 100;"
            + "worth home 100 period 1 out 0;lift 1 chance 33 up 200;lift 2 chance 33 up 200;";
        LastCloud x = Skies.under(sky);
        state(x, 0, 0, 30, 0, false, false, 94, 100, 10000);
        state(x, 0, 0, 9, 0, false, false, 0, -1, 0);
        // a climb at 1 or 2: with that at 1 surely, without by 33 at 2
        state(x, 0, 1, 10, 2, true, false, 93, 0, 10000);
        // 33 of 93 by 100 is 30; 33 of 10,000 by 100 is 3,300
        state(x, 0, 1, 10, 2, false, false, 30, 110, 3300);
        // 33 of 93 and 67 of 30 by 100 is 50.79; 33 of 10,000 and 67 of 3,300 by 100 is 5,511
        state(x, 0, 0, 20, 0, false, false, 50, 100, 5511);
        x = Skies.under(sky.replace(" home;leg", ";leg"));
        state(x, 0, 0, 30, 0, false, false, 0, -1, 0);
        // two climbs: behind the first the lift is still there
        state(Skies.under(HOP), 0, 0, 3, 0, true, false, 60, 0, 10000);
        state(Skies.under(HOP), 0, 0, 13, 1, false, false, -40, -1, 0);
    }

    // ---- promises 22 to 28 ----

    /** start: "NOTHING: there is none": no START, no RULE. */
    private static void noSuchStart() {
        LastCloud x = Skies.under(HOP);
        for (int rule : new int[] {-1, 4, MAX, MIN}) {
            D.due("start(" + rule + ")", x.start(rule), NOTHING);
        }
        for (int rule = 0; rule < 4; rule++) {
            D.due("no start " + rule, Skies.under(LEG).start(rule), NOTHING);
            D.due("no sky " + rule, new LastCloud().start(rule), NOTHING);
        }
        D.due("start(2): 50 of 9,997", x.start(2), 4998);
    }

    /** cost: "NOTHING likewise, another RULE." */
    private static void noSuchCost() {
        LastCloud x = Skies.under(HOP);
        for (int rule : new int[] {-1, 0, 2, 4, MAX, MIN}) {
            D.due("cost(" + rule + ")", x.cost(rule), NOTHING);
        }
        D.due("cost(1)", x.cost(1), 0);
        D.due("cost(3)", x.cost(3), 0);
        for (int rule = 0; rule < 4; rule++) {
            D.due("no start " + rule, Skies.under(LEG).cost(rule), NOTHING);
        }
    }

    /** leave, on: "NONE: never": too late, nowhere to go. */
    private static void leftNever() {
        LastCloud x = Skies.under(HOP);
        D.due("in time", x.leave(0, 4, false), 15);
        D.due("too late", x.leave(0, 5, false), -1);
        D.due("too late", x.leave(0, 6, false), -1);
        D.due("in time", x.on(0, 4, false), 15);
        D.due("too late", x.on(0, 5, false), -1);
        D.due("home is not left", x.leave(1, 0, false), -1);
        D.due("home is not left", x.on(1, 0, false), -1);
        D.due("no leg", Skies.under("place ground 0;lift 0 chance 0 up 9;").leave(0, 0, false), -1);
    }

    /** "The least height": the ground, the ceiling. */
    private static void leftFromGroundToCeiling() {
        LastCloud x = Skies.under("place ground 7;place ground 7 home;leg 0 1 miles 1 air 100 wind 0;speed 60 sink 100;"
            + "lift 0 chance 50 up 19;");
        D.due("from its ground", x.leave(0, 0, false), 7);
        D.due("from its ground", x.on(0, 0, false), 7);
        // periods cost nothing: with the lift one climbs to the ceiling first, till no period is left for that
        x = Skies.under(FREE + "lift 0 chance 50 up 400;last 9;");
        D.due("with the lift", x.leave(0, 0, false), 40);
        D.due("without it", x.on(0, 0, false), 15);
        D.due("with the lift, but a leg's time", x.leave(0, 7, false), 15);
        D.due("too late", x.leave(0, 8, false), -1);
        x = Skies.under(FREE.replace("ground 5", "ground 30") + "lift 0 chance 50 up 400;");
        D.due("from the ceiling", x.on(0, 0, false), 40);
        D.due("from the ceiling", x.leave(0, 0, false), 40);
        x = Skies.under(FREE.replace("ground 5", "ground 30") + "lift 0 chance 50 up 400;ceiling 39;");
        D.due("never", x.on(0, 0, false), -1);
        D.due("never", x.leave(0, 0, false), -1);
    }

    /** leave: "-2: there are none such"; on: "-2 likewise." */
    private static void noSuchLeave() {
        LastCloud x = Skies.under(HOP);
        for (int none : new int[] {-1, 2, 8, MAX, MIN}) {
            D.due("leave(" + none + ")", x.leave(none, 0, false), -2);
            D.due("on(" + none + ")", x.on(none, 0, false), -2);
        }
        for (int none : new int[] {-1, 7, 48, MAX, MIN}) {
            D.due("leave at " + none, x.leave(0, none, false), -2);
            D.due("on at " + none, x.on(0, none, false), -2);
        }
        D.due("no water", x.leave(0, 0, true), -2);
        D.due("no water", x.on(0, 0, true), -2);
        x = Skies.under(HOP + "water 20;");
        D.due("with it the leg takes 1 and 5", x.leave(0, 0, true), 10);
        D.due("with it the leg takes 1 and 5", x.on(0, 5, true), 10);
        D.due("at the last period", x.on(0, 6, true), -1);
    }

    /** last: "The last PERIOD at which one comes home surely"; "NONE: none." */
    private static void lastPeriods() {
        LastCloud x = Skies.under(HOP);
        D.due("at the edge", x.last(0, 15), 4);
        D.due("below it", x.last(0, 14), -1);
        D.due("on the ground", x.last(0, 3), -1);
        D.due("at home to the last one", x.last(1, 5), 6);
        D.due("from the ceiling", x.last(0, 40), 4);
        D.due("the first one", Skies.under(HOP.replace("last 6", "last 2")).last(0, 15), 0);
        D.due("none", Skies.under(HOP.replace("last 6", "last 1")).last(0, 15), -1);
        D.due("no home", Skies.under(HOP.replace(" home;leg", " field 999;leg")).last(0, 15), -1);
        // surely is by 10,000: a lift of 99 is not sure
        String far = "place ground 0;place ground 0;place ground 0 home;leg 0 1 miles 5 air 0 wind 0;"
            + "leg 1 2 miles 5 air 0 wind 0;speed 60 sink 100;last 9;lift 1 chance ";
        D.due("by 100: 2, a climb and 2", Skies.under(far + "100 up 400;").last(0, 10), 4);
        D.due("by 99", Skies.under(far + "99 up 400;").last(0, 10), -1);
        D.due("its own lift is not there", Skies.under(far.replace("lift 1", "lift 0") + "100 up 400;").last(0, 10), -1);
    }

    /** last: "-2: there are none such." */
    private static void noSuchLast() {
        LastCloud x = Skies.under(HOP);
        for (int none : new int[] {-1, 2, 8, MAX, MIN}) {
            D.due("last(" + none + ", 9)", x.last(none, 9), -2);
        }
        for (int none : new int[] {-1, 0, 2, 41, MAX, MIN}) {
            D.due("last(0, " + none + ")", x.last(0, none), -2);
        }
        D.due("below home's ground", x.last(1, 4), -2);
    }

    /** weak: "The least of 0, 250, .. 2,000 feet a minute up": 0 wins nothing; at last 2,000 is tried. */
    private static void weakFromTheLeast() {
        LastCloud x = Skies.under(HOP);
        D.due("250 wins 12", x.weak(0, 9, 0), 250);
        D.due("a step is enough, 0 is none", x.weak(0, 14, 0), 250);
        // from 3 one climb (one period) must win 12: 250; from 0 of another sky 50 in one
        D.due("on the ground at 3", x.weak(0, 3, 3), 250);
        String high = "ceiling 60;place ground 0;place ground 30 home;leg 0 1 miles 5 air 0 wind 0;"
            + "lift 0 chance 0 up 0;last 3;turn 999;speed 60 sink ";
        D.due("2,000 less 999 wins 50", Skies.under(high + "200;").weak(0, 0, 0), 2000);
        D.due("51 are too much", Skies.under(high + "210;").weak(0, 0, 0), -1);
        D.due("without water", Skies.under(high + "200;water 50;").weak(0, 0, 0), 2000);
        D.due("in place of its own", Skies.under(HOP.replace("up 200", "up 2000")).weak(0, 9, 0), 250);
        D.due("in place of its own", Skies.under(HOP.replace("up 200", "up 0")).weak(0, 9, 0), 250);
    }

    /** weak: "NONE: by none, it has no LIFT." */
    private static void weakByNone() {
        LastCloud x = Skies.under(HOP);
        D.due("too late for a climb and the leg", x.weak(0, 9, 4), -1);
        D.due("at the last period", x.weak(0, 9, 6), -1);
        D.due("the leg is better", x.weak(0, 15, 0), -1);
        D.due("at the ceiling", x.weak(0, 40, 0), -1);
        D.due("no lift", x.weak(1, 9, 0), -1);
        D.due("no lift", Skies.under(LEG).weak(0, 9, 0), -1);
    }

    /** weak: "-2: there are none such." */
    private static void noSuchWeak() {
        LastCloud x = Skies.under(HOP);
        for (int none : new int[] {-1, 2, 8, MAX, MIN}) {
            D.due("weak(" + none + ", 9, 0)", x.weak(none, 9, 0), -2);
        }
        for (int none : new int[] {-1, 0, 2, 41, MAX, MIN}) {
            D.due("weak(0, " + none + ", 0)", x.weak(0, none, 0), -2);
        }
        for (int none : new int[] {-1, 7, 48, MAX, MIN}) {
            D.due("weak(0, 9, " + none + ")", x.weak(0, 9, none), -2);
        }
        D.due("no lift, and no such height", x.weak(1, 4, 0), -2);
    }

    /** ends: "whatever LIFTS are there that may be (CHANCE above 0) or may not (below 100)". */
    private static void endsThatMayBe() {
        int[] chances = {0, 1, 50, 99, 100};
        int[] leasts = {-40, -40, -40, -40, 70};
        int[] mosts = {-40, 70, 70, 70, 70};
        for (int i = 0; i < chances.length; i++) {
            LastCloud x = Skies.under(HOP.replace("chance 50", "chance " + chances[i]));
            for (int rule = 0; rule < 4; rule++) {
                D.due("least " + i, x.ends(rule, false), rule == 2 ? (leasts[i] < 0 ? 0 : 9997) : leasts[i]);
                D.due("greatest " + i, x.ends(rule, true), rule == 2 ? (mosts[i] < 0 ? 0 : 9997) : mosts[i]);
            }
        }
    }

    /** ends: of what the RULE does: from the ceiling, by two climbs, without water, by the last LEG, at the last PERIOD. */
    private static void endsOfAllDeeds() {
        LastCloud x = Skies.under(HOP.replace("at 9", "at 40"));
        D.due("from the ceiling", x.ends(0, false), 80);
        D.due("from the ceiling", x.ends(0, true), 80);
        D.due("at the last period", Skies.under(HOP.replace("last 6", "last 3")).ends(0, true), 70);
        D.due("a period too few", Skies.under(HOP.replace("last 6", "last 2")).ends(0, true), -40);
        D.due("two climbs", Skies.under(HOP.replace("at 9", "at 3")).ends(0, true), 60);
        D.due("two climbs, or none", Skies.under(HOP.replace("at 9", "at 3")).ends(0, false), -40);
        // with water the leg takes 1 and 5; a climb wins 0 then
        String wet = HOP.replace("at 9", "at 10 wet").replace("50 up 200", "50 up 100") + "water 20;turn 80;";
        D.due("with water", Skies.under(wet).ends(0, false), 90);
        D.due("with water", Skies.under(wet).ends(0, true), 90);
        // from 9 it is let go: 6 climbs of 1 and the leg are 8 periods
        wet = wet.replace("at 10", "at 9").replace("last 6", "last 8");
        D.due("let go, 20 at home", Skies.under(wet).ends(0, true), 20);
        D.due("or not, out with water", Skies.under(wet).ends(0, false), -40);
        // behind a leg one is lower: without the lift there one lands
        x = Skies.under(RuleTest.BY_A_CLOUD + "80 up 400;");
        D.due("out at the cloud", x.ends(0, false), -200);
        D.due("home over it", x.ends(0, true), 1000);
        // leg 9 by speed 5 to 1, from there leg 0 by speed 4: each takes 1 period, all others 2 or more
        StringBuilder most = new StringBuilder("place ground 0;place ground 0;place ground 0 home;"
            + "leg 1 2 miles 4 air 0 wind 0;");
        for (int i = 1; i < 9; i++) {
            most.append("leg 0 1 miles 9 air 0 wind 0;");
        }
        most.append("leg 0 1 miles 5 air 0 wind 0;speed 20 sink 80;speed 20 sink 80;speed 20 sink 80;speed 20 sink 80;"
            + "speed 60 sink 100;speed 61 sink 100;worth home 100 period 10 out 0;start 0 at ");
        D.due("5 and 5", Skies.under(most + "10;").ends(0, false), 80);
        D.due("5 and 5", Skies.under(most + "10;").ends(0, true), 80);
        D.due("too low for both", Skies.under(most + "9;").ends(0, true), 0);
    }

    /** ends: "NOTHING: there are none such, no START." */
    private static void noSuchEnds() {
        LastCloud x = Skies.under(HOP);
        for (int rule : new int[] {-1, 4, MAX, MIN}) {
            D.due("ends(" + rule + ", true)", x.ends(rule, true), NOTHING);
            D.due("ends(" + rule + ", false)", x.ends(rule, false), NOTHING);
        }
        for (int rule = 0; rule < 4; rule++) {
            D.due("no start", Skies.under(LEG).ends(rule, true), NOTHING);
            D.due("no start", Skies.under(LEG).ends(rule, false), NOTHING);
        }
    }

    // ---- VI, promises 31 to 35 ----

    /** At CHANCE 0 and 100 nothing is to be known; to see another climb is worth all or nothing. */
    private static void knowledgeOfTheSure() {
        int[] chances = {0, 50, 100};
        int[] shares = {110, 55, 0};
        for (int i = 0; i < chances.length; i++) {
            LastCloud x = Skies.under(HOP.replace("chance 50 up 200", "chance " + chances[i] + " up 200 sign 100 0"));
            D.due("share at " + chances[i], x.share(0), shares[i]);
            D.due("known at " + chances[i], x.known(0), 0);
            D.due("hawk at " + chances[i], x.hawk(0), 0);
            D.due("a place without a lift", x.share(1), 0);
            D.due("a place without a lift", x.known(1), 0);
            D.due("a place without a lift", x.hawk(1), 0);
        }
        // a sign that can't be seen, one that always is: the chance stays
        D.due("never seen", Skies.under(RuleTest.BY_A_CLOUD + "80 up 400 sign 0 0;").hawk(1), 0);
        D.due("always seen", Skies.under(RuleTest.BY_A_CLOUD + "80 up 400 sign 100 100;").hawk(1), 0);
        D.due("not told", Skies.under(RuleTest.BY_A_CLOUD + "80 up 400;").hawk(1), 0);
        // a sign that tells all is as good as to know: 80 of 1,000 and 20 of 50 less 760
        LastCloud x = Skies.under(RuleTest.BY_A_CLOUD + "80 up 400 sign 100 0;");
        D.due("it tells all", x.hawk(1), 50);
        D.due("to know it", x.known(1), 50);
        // seen by 80 of 90 and 20 of 10: 7,400: 97, that is 964; not: 800 by 2,600 is 30, that is 160: 754.9 less 760
        x = Skies.under(RuleTest.BY_A_CLOUD + "80 up 400 sign 90 10;");
        D.due("it tells much", x.hawk(1), -6);
        // seen by 30 of 100 and 70 of 60: 7,200: 41, that is 292; not: 0, that is the field's 50: 224.2 less 160
        x = Skies.under(RuleTest.BY_A_CLOUD + "30 up 400 sign 100 60;");
        D.due("it tells more", x.hawk(1), 64);
    }

    /** share, known: "NOTHING: there are none such"; hawk: "NOTHING likewise." */
    private static void noSuchKnowledge() {
        LastCloud x = Skies.under(HOP);
        for (int none : new int[] {-1, 2, 8, MAX, MIN}) {
            D.due("share(" + none + ")", x.share(none), NOTHING);
            D.due("known(" + none + ")", x.known(none), NOTHING);
            D.due("hawk(" + none + ")", x.hawk(none), NOTHING);
        }
        LastCloud none = Skies.under(LEG + "lift 0 chance 50 up 200;");
        D.due("no start", none.share(0), NOTHING);
        D.due("no start", none.known(0), NOTHING);
        D.due("no start", none.hawk(0), NOTHING);
    }

    /** KNOWN: "by 100, cut, less the WORTH as it is": 33 of 1,000 and 67 of 50 is 363.5, as it is 196. */
    private static void knownIsCut() {
        // as it is: 33 of 1,000 and 67 of -200 by 100 is 196
        LastCloud x = Skies.under(RuleTest.BY_A_CLOUD + "33 up 400;");
        D.due("start", x.start(0), 196);
        D.due("known", x.known(1), 167);
        // 1 of 1,000 and 99 of 50 is 59.5; as it is the field's 50
        x = Skies.under(RuleTest.BY_A_CLOUD + "1 up 400;");
        D.due("start", x.start(0), 50);
        D.due("known", x.known(1), 9);
    }

    /** water: "NOTHING: no START", and 0 where none is had. */
    private static void waterIsWorth() {
        D.due("no start", Skies.under(LEG + "water 20;").water(), NOTHING);
        D.due("no sky", new LastCloud().water(), NOTHING);
        D.due("water 0", Skies.under(HOP).water(), 0);
        D.due("water 0, wet", Skies.under(HOP.replace("at 9", "at 9 wet")).water(), 0);
        // 100 take 300 by 100 and 1, with water 1 in the hundred 300 by 101 and 1
        String little = "water 1;place ground 0;place ground 0 home;leg 0 1 miles 25 air 100 wind 0;speed 100 sink 100;"
            + "worth home 100 period 10 out 0;start 0 at 8";
        D.due("water 1", Skies.under(little + ";").water(), 10);
        D.due("a dry start", Skies.under(little + ";").start(0), 60);
        D.due("a wet start with water 1", Skies.under(little + " wet;").start(0), 70);
        // with water the leg takes 1 and 5: from 10 one is home at 1: 90; without one climbs by 50 in the hundred
        String wet = HOP.replace("at 9", "at 10 wet") + "water 20;";
        D.due("with it", Skies.under(wet).start(0), 90);
        D.due("90 less 15", Skies.under(wet).water(), 75);
        D.due("at a dry start too", Skies.under(wet.replace(" wet", "")).water(), 75);
    }

    /** drop: "NONE: not, no START, no water." */
    private static void neverDropped() {
        D.due("no sky", new LastCloud().drop(), -1);
        D.due("no start", Skies.under(LEG + "water 20;").drop(), -1);
        D.due("no water", Skies.under(HOP).drop(), -1);
        D.due("water 0", Skies.under(HOP.replace("at 9", "at 9 wet")).drop(), -1);
        D.due("a dry start", Skies.under(HOP + "water 20;").drop(), -1);
        D.due("not", Skies.under(HOP.replace("at 9", "at 10 wet") + "water 20;").drop(), -1);
    }

    /** drop: "The first PERIOD on the way .., all LIFTS being there, at which the water is let go": it may be 0. */
    private static void droppedAtOnce() {
        // with water a climb wins 0, without 5: from 9 at 0 one is home by two climbs, at 4
        LastCloud x = Skies.under(HOP.replace("at 9", "at 9 wet") + "water 50;turn 100;");
        D.due("with water", x.climb(0, true), 0);
        D.due("without", x.climb(0, false), 5);
        D.due("at once", x.drop(), 0);
        D.due("though the lift is seen not to be there", x.sight(0, 1), 1);
        D.due("all lifts are there all the same", x.drop(), 0);
    }

    /** drop: "on the way": with water to 1, from 5 at 0 that is 1 period and 5; there three climbs of 5 without it. */
    private static void droppedLater() {
        LastCloud x = Skies.under("water 50;turn 100;place ground 0;place ground 0;place ground 0 home;"
            + "leg 0 1 miles 5 air 0 wind 0;leg 1 2 miles 10 air 0 wind 0;lift 1 chance 1 up 200;speed 60 sink 100;"
            + "worth home 1000 period 10 out 0;start 0 at 5 wet;");
        D.due("at 1, all lifts being there", x.drop(), 1);
        D.due("home at 7 by 1 in the hundred: 9.3", x.start(0), 9);
    }
}
