/** Promises 19 to 28 and 31 to 35: worths, deeds, the way home, when to leave, what a knowledge or water is worth. */
public final class RuleTest {
    private static final Due D = new Due("RuleTest");
    private static final int NOTHING = -2000000000;
    /** The leg takes 2 periods and 20 steps, a climb wins 20. */
    static final String CLIMB_FIRST = "place ground 0;place ground 0 home;leg 0 1 miles 5 air 0 wind 0;"
        + "lift 0 chance 50 up 400;speed 60 sink 200;last 6;worth home 100 period 10 out 40;start 0 at 5;";
    /** Each leg takes 2 periods and 10 steps, a climb at the place between wins 20. */
    static final String BY_A_CLOUD = "place ground 0 field 50;place ground 0;place ground 0 home;"
        + "leg 0 1 miles 5 air 0 wind 0;leg 1 2 miles 5 air 0 wind 0;speed 60 sink 100;"
        + "worth home 1000 period 0 out 200;start 0 at 15;lift 1 chance ";
    /** The leg takes 2 periods and 10 steps, with water 1 and 5; a climb wins 1, with water 0. */
    private static final String WET = "water 20;turn 100;place ground 0;place ground 0 home;leg 0 1 miles 5 air 0 wind 0;"
        + "lift 0 chance 100 up 120;speed 60 sink 100;worth home 100 period 10 out 0;";

    public static void main(String[] args) {
        climbFirst();
        states();
        firstOfSeveral();
        ofLegsAndSpeeds();
        periodsLeft();
        safe();
        fast();
        soonestHome();
        withWater();
        drops();
        grounds();
        leaving();
        lastSure();
        greatest();
        weakLifts();
        knowing();
        withoutStart();
        D.finish();
    }

    private static void state(LastCloud x, int rule, int place, int height, int period, boolean lift, boolean wet,
        int worth, int deed, int home) {
        String call = "(" + rule + ", " + place + ", " + height + ", " + period + ", " + lift + ", " + wet + ")";
        D.due("worth" + call, x.worth(rule, place, height, period, lift, wet), worth);
        D.due("deed" + call, x.deed(rule, place, height, period, lift, wet), deed);
        D.due("home" + call, x.home(rule, place, height, period, lift, wet), home);
    }

    private static void noState(LastCloud x, int rule, int place, int height, int period, boolean wet) {
        state(x, rule, place, height, period, false, wet, NOTHING, -2, -2);
        state(x, rule, place, height, period, true, wet, NOTHING, -2, -2);
    }

    private static void climbFirst() {
        LastCloud x = Skies.under(CLIMB_FIRST);
        state(x, 0, 0, 5, 0, true, false, 70, 0, 10000);
        state(x, 0, 0, 5, 0, false, false, -40, -1, 0);
        state(x, 0, 0, 25, 1, true, false, 70, 100, 10000);
        state(x, 0, 0, 20, 0, false, false, 80, 100, 10000);
        state(x, 0, 0, 19, 0, false, false, -40, -1, 0);
        state(x, 0, 1, 0, 3, false, false, 70, -1, 10000);
        state(x, 0, 1, 40, 3, true, false, 70, -1, 10000);
        // (50 times 70 and 50 times -40) by 100
        D.due("start(0)", x.start(0), 15);
        D.due("start(1)", x.start(1), 15);
        D.due("start(3)", x.start(3), 15);
        D.due("start(4)", x.start(4), NOTHING);
        D.due("start(-1)", x.start(-1), NOTHING);
        D.due("cost(1)", x.cost(1), 0);
        D.due("cost(3)", x.cost(3), 0);
        D.due("cost(0)", x.cost(0), NOTHING);
        D.due("cost(2)", x.cost(2), NOTHING);
        D.due("cost(4)", x.cost(4), NOTHING);
        D.due("the least end", x.ends(0, false), -40);
        D.due("the greatest end", x.ends(0, true), 70);
        D.due("no rule", x.ends(4, true), NOTHING);
        D.due("no rule", x.ends(-1, true), NOTHING);
        x.sight(0, 0);
        D.due("it is there", x.ends(0, false), 70);
        D.due("start(0)", x.start(0), 70);
        D.due("by 99 it may not be", Skies.under(CLIMB_FIRST.replace("chance 50", "chance 99")).ends(0, false), -40);
        D.due("by 1 it may be", Skies.under(CLIMB_FIRST.replace("chance 50", "chance 1")).ends(0, true), 70);
        D.due("by 0 not", Skies.under(CLIMB_FIRST.replace("chance 50", "chance 0")).ends(0, true), -40);
        x.sight(0, 1);
        D.due("it is not there", x.ends(0, true), -40);
        D.due("start(0)", x.start(0), -40);
    }

    private static void states() {
        LastCloud x = Skies.under(CLIMB_FIRST);
        noState(x, 4, 0, 5, 0, false);
        noState(x, -1, 0, 5, 0, false);
        noState(x, 0, 2, 5, 0, false);
        noState(x, 0, -1, 5, 0, false);
        noState(x, 0, 0, 41, 0, false);
        noState(x, 0, 0, -1, 0, false);
        noState(x, 0, 0, 5, 7, false);
        noState(x, 0, 0, 5, -1, false);
        noState(x, 0, 0, 5, 0, true);
        noState(x, Integer.MAX_VALUE, Integer.MIN_VALUE, Integer.MAX_VALUE, Integer.MIN_VALUE, true);
        x = Skies.under("place ground 7 field 9;");
        noState(x, 0, 0, 6, 0, false);
        state(x, 0, 0, 7, 0, true, false, 9, -1, 0);
    }

    private static void firstOfSeveral() {
        // nothing is worth anything: landing comes first
        LastCloud x = Skies.under("place ground 0;place ground 0 home;leg 0 1 miles 5 air 0 wind 0;lift 0 chance 50 up 400;"
            + "speed 60 sink 200;worth home 0 period 0 out 0;");
        state(x, 0, 0, 20, 0, true, false, 0, -1, 0);
        // periods cost nothing: climbing comes ahead of legs till one is at the ceiling
        x = Skies.under("water 9;place ground 0;place ground 0 home;leg 1 0 miles 5 air 0 wind 0;"
            + "leg 0 1 miles 5 air 0 wind 0;lift 0 chance 50 up 400;speed 60 sink 200;speed 60 sink 200;");
        state(x, 0, 0, 20, 0, true, false, 1000, 0, 10000);
        state(x, 0, 0, 39, 0, true, false, 1000, 0, 10000);
        state(x, 0, 0, 40, 0, true, false, 1000, 100, 10000);
        state(x, 0, 0, 40, 0, false, false, 1000, 100, 10000);
        // letting the water go ahead of legs, behind climbing
        state(x, 0, 0, 20, 0, true, true, 1000, 0, 10000);
        state(x, 0, 0, 20, 0, false, true, 1000, 1, 10000);
        state(x, 0, 0, 40, 0, true, true, 1000, 1, 10000);
    }

    private static void ofLegsAndSpeeds() {
        // the second leg (10 and wind) by the second speed takes 1 period
        LastCloud x = Skies.under("place ground 0;place ground 0 home;leg 0 1 miles 5 air 0 wind 0;"
            + "leg 1 0 miles 5 air 0 wind 10 down;speed 30 sink 50;speed 55 sink 100;worth home 100 period 10 out 0;");
        state(x, 0, 0, 20, 0, false, false, 90, 111, 10000);
        state(x, 0, 0, 4, 0, false, false, 0, -1, 0);
    }

    private static void periodsLeft() {
        LastCloud x = Skies.under(CLIMB_FIRST);
        state(x, 0, 0, 20, 4, false, false, 40, 100, 10000);
        state(x, 0, 0, 20, 5, false, false, -40, -1, 0);
        state(x, 0, 0, 5, 3, true, false, 40, 0, 10000);
        state(x, 0, 0, 5, 4, true, false, -40, -1, 0);
        state(x, 0, 0, 5, 6, true, false, -40, -1, 0);
        state(x, 0, 1, 5, 6, true, false, 40, -1, 10000);
        // at the last period one may still arrive by climbing to a worth that costs less than it wins: never here
        x = Skies.under("place ground 0 field 500;place ground 0 home;worth home 9 period 7 out 0;last 3;");
        state(x, 0, 0, 9, 3, false, false, 479, -1, 0);
        state(x, 0, 1, 9, 3, false, false, -12, -1, 10000);
    }

    private static void safe() {
        LastCloud x = Skies.under(BY_A_CLOUD + "80 up 400;");
        // with the lift 1000, without it -200 behind the leg
        state(x, 0, 0, 15, 0, false, false, 760, 100, 8000);
        state(x, 1, 0, 15, 0, false, false, 50, -1, 0);
        state(x, 1, 0, 20, 0, false, false, 1000, 100, 10000);
        state(x, 1, 1, 9, 0, true, false, 1000, 0, 10000);
        D.due("start(0)", x.start(0), 760);
        D.due("start(1)", x.start(1), 50);
        D.due("cost(1)", x.cost(1), 710);
        D.due("ends(0, false)", x.ends(0, false), -200);
        D.due("ends(0, true)", x.ends(0, true), 1000);
        D.due("ends(1, false)", x.ends(1, false), 50);
        D.due("ends(1, true)", x.ends(1, true), 50);
        // as one is then: with water the place behind the leg reaches home, without it does not
        x = Skies.under("water 20;place ground 0 field 5;place ground 0;place ground 0 home;leg 0 1 miles 5 air 0 wind 0;"
            + "leg 1 2 miles 5 air 0 wind 0;speed 60 sink 100;");
        state(x, 1, 0, 10, 0, false, true, 1000, 100, 10000);
        state(x, 1, 0, 10, 0, false, false, 5, -1, 0);
        state(x, 1, 0, 9, 0, false, true, 5, -1, 0);
    }

    private static void fast() {
        LastCloud x = Skies.under(BY_A_CLOUD + "80 up 2000;speed 100 sink 500;");
        // by what the lift there tells 100 is faster: that loses 25
        state(x, 3, 0, 15, 0, false, false, 50, -1, 0);
        state(x, 3, 0, 25, 0, false, false, 760, 101, 8000);
        state(x, 0, 0, 25, 0, false, false, 1000, 100, 10000);
        // no lift at home: 60 is faster by 100
        state(x, 3, 1, 10, 0, false, false, 1000, 110, 10000);
        D.due("cost(3)", x.cost(3), 710);
        String two = "place ground 0;place ground 0 home;leg 0 1 miles 5 air 0 wind 0;speed 30 sink 40;speed 60 sink 100;"
            + "worth home 100 period 10 out 0;";
        D.due("by 100 without a lift", Skies.under(two).deed(3, 0, 20, 0, false, false), 101);
        D.due("by 1 at least", Skies.under(two + "turn 300;lift 1 chance 0 up 100;").deed(3, 0, 20, 0, false, false), 100);
        D.due("up less turn", Skies.under(two + "turn 300;lift 1 chance 0 up 400;").deed(3, 0, 20, 0, false, false), 101);
        D.due("of the place it leads to", Skies.under(two + "turn 300;lift 0 chance 0 up 100;").deed(3, 0, 20, 0, false, false),
            101);
        D.due("by the slow one it loses 6", Skies.under(two + "lift 1 chance 0 up 1;").deed(3, 0, 6, 0, false, false), 100);
        // by 100 60 and 30 are alike (21.4), by less 30 is faster
        String alike = "place ground 0;place ground 0 home;leg 0 1 miles 5 air 0 wind 0;worth home 100 period 10 out 0;";
        D.due("by 100, not less", Skies.under(alike + "speed 60 sink 180;speed 30 sink 40;").deed(3, 0, 30, 0, false, false),
            100);
        D.due("by 100, not more", Skies.under(alike + "speed 30 sink 40;speed 60 sink 180;").deed(3, 0, 30, 0, false, false),
            100);
        // by 1 20 is faster (10 and 9.4), by 2 150 is (13.3 and 17.6)
        String far = "place ground 0;place ground 0 home;leg 0 1 miles 1 air 0 wind 0;speed 20 sink 1;speed 150 sink 15;"
            + "worth home 100 period 10 out 0;lift 1 chance 0 up ";
        D.due("by 1", Skies.under(far + "0;").deed(3, 0, 20, 0, false, false), 100);
        D.due("by 2", Skies.under(far + "2;").deed(3, 0, 20, 0, false, false), 101);
        D.due("the fast one loses 10", Skies.under(two).deed(3, 0, 9, 0, false, false), -1);
    }

    private static void soonestHome() {
        LastCloud x = Skies.under(BY_A_CLOUD.replace("home 1000", "home 10") + "80 up 400;");
        state(x, 0, 0, 15, 0, false, false, 50, -1, 0);
        // a leg, a climb, a leg: 9,995 by 80 in the hundred
        state(x, 2, 0, 15, 0, false, false, 7996, 100, 8000);
        state(x, 2, 1, 0, 3, false, false, 0, -1, 0);
        state(x, 2, 1, 10, 3, true, false, 9995, 110, 10000);
        D.due("start(2)", x.start(2), 7996);
        D.due("ends(2, true)", x.ends(2, true), 9995);
        D.due("ends(2, false)", x.ends(2, false), 0);
        x = Skies.under(CLIMB_FIRST);
        D.due("cut", x.start(2), 4998);
    }

    private static void withWater() {
        LastCloud x = Skies.under(WET + "start 0 at 8 wet;");
        state(x, 0, 0, 8, 0, true, true, 90, 100, 10000);
        // two climbs, then the leg
        state(x, 0, 0, 8, 0, true, false, 60, 0, 10000);
        state(x, 0, 0, 8, 0, false, false, 0, -1, 0);
        // 5 are lost with water; six climbs without
        state(x, 0, 0, 4, 0, true, true, 20, 1, 10000);
        state(x, 0, 0, 4, 0, false, true, 0, -1, 0);
        D.due("start", x.start(0), 90);
        D.due("water()", x.water(), 30);
        D.due("the same from a dry start", Skies.under(WET + "start 0 at 8;").water(), 30);
        D.due("a dry start", Skies.under(WET + "start 0 at 8;").start(0), 60);
        D.due("no water", Skies.under(CLIMB_FIRST).water(), 0);
        // with 1 in the hundred 60 stay 60
        String one = "water 1;turn 20;place ground 0;place ground 0 home;leg 0 1 miles 5 air 0 wind 0;"
            + "lift 0 chance 100 up 120;speed 60 sink 100;worth home 100 period 10 out 0;start 0 at 8 wet;";
        // 5 times 99 is 4 steps, 5 times 100 is 5
        x = Skies.under("water 1;place ground 0;place ground 0 home;leg 0 1 miles 25 air 100 wind 0;speed 100 sink 100;"
            + "worth home 100 period 10 out 0;start 0 at 8;");
        D.due("101 take a period less", x.water(), 10);
        D.due("a little water", Skies.under(one).climb(0, true), 4);
        // from 5 one climb is enough without it
        state(Skies.under(one), 0, 0, 5, 0, true, true, 70, 1, 10000);
        D.due("it is let go", Skies.under(one.replace("at 8", "at 5")).drop(), 0);
        D.due("from 8 one climb is enough with it too", Skies.under(one).water(), 0);
        D.due("no start", Skies.under(WET).water(), NOTHING);
        x = Skies.under(CLIMB_FIRST.replace("at 5", "at 5 wet"));
        D.due("a wet start without water is dry", x.start(0), 15);
        D.due("and none is let go", x.drop(), -1);
    }

    private static void drops() {
        D.due("not", Skies.under(WET + "start 0 at 8 wet;").drop(), -1);
        D.due("at once", Skies.under(WET + "start 0 at 4 wet;").drop(), 0);
        D.due("no water at the start", Skies.under(WET + "start 0 at 4;").drop(), -1);
        D.due("no start", Skies.under(WET).drop(), -1);
        D.due("a new object", new LastCloud().drop(), -1);
        // a leg with water, then seven climbs without, though the lift is there by 30 alone
        LastCloud x = Skies.under("water 20;turn 100;place ground 0;place ground 0;place ground 0 home;"
            + "leg 0 1 miles 5 air 0 wind 0;leg 1 2 miles 5 air 0 wind 0;lift 1 chance 30 up 120;speed 60 sink 100;"
            + "worth home 1000 period 10 out 0;start 0 at 8 wet;");
        D.due("start", x.start(0), 270);
        D.due("behind the leg", x.drop(), 1);
        D.due("water()", x.water(), 270);
    }

    private static void grounds() {
        // the height there is the ground's or more, over the hill
        LastCloud x = Skies.under("place ground 0;place ground 9 home;leg 0 1 miles 5 air 0 wind 0 hill 20;speed 60 sink 100;");
        D.due("19 less 5", x.deed(0, 0, 24, 0, false, false), -1);
        D.due("over the hill", x.deed(0, 0, 25, 0, false, false), 100);
        x = Skies.under("place ground 0;place ground 9 home;leg 0 1 miles 5 air 0 wind 0;speed 60 sink 100;");
        D.due("at its ground", x.deed(0, 0, 19, 0, false, false), 100);
        D.due("below it", x.deed(0, 0, 18, 0, false, false), -1);
        D.due("landing there", x.worth(0, 0, 19, 0, false, false), 1000);
    }

    private static void leaving() {
        LastCloud x = Skies.under(CLIMB_FIRST);
        D.due("leave(0, 0)", x.leave(0, 0, false), 20);
        D.due("on(0, 0)", x.on(0, 0, false), 20);
        D.due("leave(0, 4)", x.leave(0, 4, false), 20);
        D.due("leave(0, 5)", x.leave(0, 5, false), -1);
        D.due("on(0, 5)", x.on(0, 5, false), -1);
        D.due("leave(1, 0)", x.leave(1, 0, false), -1);
        D.due("leave(2, 0)", x.leave(2, 0, false), -2);
        D.due("leave(-1, 0)", x.leave(-1, 0, false), -2);
        D.due("leave(0, 7)", x.leave(0, 7, false), -2);
        D.due("on(0, -1)", x.on(0, -1, false), -2);
        D.due("on(2, 0)", x.on(2, 0, false), -2);
        D.due("no water", x.leave(0, 0, true), -2);
        D.due("no water", x.on(0, 0, true), -2);
        x = Skies.under(BY_A_CLOUD + "80 up 400;");
        D.due("at the ceiling", x.leave(1, 0, false), 40);
        D.due("no climb is worth it", x.leave(1, 38, false), 10);
        D.due("to a cloud", x.on(0, 0, false), 10);
        D.due("its lift is too late", x.on(0, 36, false), 20);
        D.due("in time", x.on(0, 35, false), 10);
        D.due("too late", x.on(0, 37, false), -1);
        x = Skies.under(WET);
        D.due("with water", x.on(0, 0, true), 5);
        D.due("without", x.on(0, 0, false), 10);
        D.due("with water and lift", x.leave(0, 0, true), 5);
        D.due("with lift", x.leave(0, 0, false), 10);
    }

    private static void lastSure() {
        LastCloud x = Skies.under(CLIMB_FIRST);
        D.due("last(0, 20)", x.last(0, 20), 4);
        D.due("last(0, 19)", x.last(0, 19), -1);
        D.due("last(1, 0)", x.last(1, 0), 6);
        D.due("last(2, 5)", x.last(2, 5), -2);
        D.due("last(-1, 5)", x.last(-1, 5), -2);
        D.due("last(0, 41)", x.last(0, 41), -2);
        D.due("last(0, -1)", x.last(0, -1), -2);
        x = Skies.under(BY_A_CLOUD + "80 up 400;");
        D.due("two legs", x.last(0, 20), 36);
        D.due("not surely", x.last(0, 19), -1);
        x.sight(1, 0);
        D.due("by the climbing one", x.last(0, 19), 35);
        D.due("below the ground", Skies.under("place ground 7 home;").last(0, 6), -2);
        x = Skies.under(CLIMB_FIRST.replace("last 6", "last 2"));
        D.due("the first period", x.last(0, 20), 0);
        x = Skies.under(CLIMB_FIRST.replace("last 6", "last 1"));
        D.due("none", x.last(0, 20), -1);
    }

    /** The most places, heights and periods that there can be. */
    private static void greatest() {
        StringBuilder text = new StringBuilder("ceiling 60;last 47;water 50;speed 60 sink 100;worth home 9999 period 99 out 9999;");
        for (int i = 0; i < 8; i++) {
            text.append("place ground 0").append(i == 7 ? " home;" : ";").append("lift ").append(i)
                .append(" chance 50 up 200;");
            text.append(i > 0 ? "leg " + (i - 1) + " " + i + " miles 5 air 0 wind 0;" : "");
        }
        LastCloud x = Skies.under(text + "start 0 at 60 wet;");
        for (int rule = 0; rule < 4; rule++) {
            state(x, rule, 7, 60, 47, true, true, rule == 2 ? 9953 : 9999 - 47 * 99, -1, 10000);
            state(x, rule, 0, 60, 47, true, true, rule == 2 ? 0 : -9999, -1, 0);
        }
        // wet a leg takes 1 period and 5 steps
        D.due("seven legs", x.start(0), 9999 - 7 * 99);
        D.due("soon", x.soon(), 7);
        D.due("way", x.way(7), 7);
        D.due("fly", x.fly(0, 1), 8);
        D.due("ends", x.ends(0, true), 9999 - 7 * 99);
        D.due("last", x.last(7, 60), 47);
        D.due("last", x.last(1, 60), 35);
        D.due("no way in the water's time", x.last(0, 60), -1);
    }

    private static void weakLifts() {
        LastCloud x = Skies.under(CLIMB_FIRST);
        // 250 wins 12: two climbs are 29
        D.due("weak(0, 5, 0)", x.weak(0, 5, 0), 250);
        D.due("one climb is left", x.weak(0, 5, 3), 500);
        D.due("none is left", x.weak(0, 5, 4), -1);
        D.due("without water", Skies.under(CLIMB_FIRST + "water 50;").weak(0, 5, 3), 500);
        D.due("high enough", x.weak(0, 20, 0), -1);
        D.due("no lift", x.weak(1, 5, 0), -1);
        D.due("weak(2, 5, 0)", x.weak(2, 5, 0), -2);
        D.due("weak(-1, 5, 0)", x.weak(-1, 5, 0), -2);
        D.due("weak(0, 41, 0)", x.weak(0, 41, 0), -2);
        D.due("weak(0, -1, 0)", x.weak(0, -1, 0), -2);
        D.due("weak(0, 5, 7)", x.weak(0, 5, 7), -2);
        D.due("weak(0, 5, -1)", x.weak(0, 5, -1), -2);
        D.due("the sky is as it was", x.start(0), 15);
        D.due("the lift is as it was", x.climb(0, false), 20);
        x = Skies.under(CLIMB_FIRST.replace("at 5;", "at 5;turn 999;"));
        D.due("2,000 wins 50", x.weak(0, 0, 3), 1500);
        // from 0 at the third period 50 are to be won: 2,000 less 999 is 1,001
        x = Skies.under("ceiling 60;turn 999;place ground 0;place ground 0 home;leg 0 1 miles 5 air 0 wind 0;"
            + "lift 0 chance 0 up 0;speed 60 sink 500;last 3;");
        D.due("2,000 alone", x.weak(0, 0, 0), 2000);
        D.due("from higher up", x.weak(0, 20, 0), 1750);
        x = Skies.under(CLIMB_FIRST.replace("at 5;", "at 5;turn 999;"));
        D.due("the lift's own wins 0", x.worth(0, 0, 0, 3, true, false), -40);
        D.due("below the ground", Skies.under("place ground 7;lift 0 chance 9 up 9;").weak(0, 6, 0), -2);
    }

    private static void knowing() {
        LastCloud x = Skies.under(BY_A_CLOUD + "80 up 400 sign 90 10;");
        D.due("share(1)", x.share(1), 240);
        // 80 times 1000 and 20 times 50, by 100, less 760
        D.due("known(1)", x.known(1), 50);
        // seen by 7400: chance 97, 964; not: chance 30, 160: 754.9 less 760
        D.due("hawk(1)", x.hawk(1), -6);
        // now 30 of 100, 70 of 60: 7200 see it: 30 of 100 by 72 is 41, 292; not: 0, the field's 50: 224.2 less 160
        LastCloud y = Skies.under(BY_A_CLOUD + "30 up 400 sign 100 60;");
        D.due("start", y.start(0), 160);
        D.due("hawk(1)", y.hawk(1), 64);
        D.due("a place without a lift", x.share(0), 0);
        D.due("a place without a lift", x.known(0), 0);
        D.due("a place without a lift", x.hawk(2), 0);
        D.due("share(3)", x.share(3), NOTHING);
        D.due("known(3)", x.known(3), NOTHING);
        D.due("hawk(3)", x.hawk(3), NOTHING);
        D.due("share(-1)", x.share(-1), NOTHING);
        D.due("known(-1)", x.known(-1), NOTHING);
        D.due("hawk(-1)", x.hawk(-1), NOTHING);
        D.due("nothing is seen by it", x.count(5), 0);
        D.due("chance", x.chance(1), 80);
        D.due("start", x.start(0), 760);
        x.sight(1, 1);
        // now 50; the other one would change all
        D.due("share(1)", x.share(1), 950);
        D.due("known(1)", x.known(1), 0);
        x = Skies.under(CLIMB_FIRST);
        D.due("the start's own lift", x.share(0), 55);
        D.due("the start's own lift", x.known(0), 0);
        // nothing is done otherwise: 45 of 70 and 55 of -40, by 100, is 9.5, and likewise behind the sign
        x = Skies.under(CLIMB_FIRST.replace("chance 50 up 400", "chance 10 up 400 sign 50 50"));
        // 10 of 70 and 90 of -40 is -2900, by 100 -29
        D.due("start", x.start(0), -29);
        D.due("a sign that tells nothing", x.hawk(0), 0);
        // seen by 1,000 in ten thousands: 10; 10 by 10 is 100, else 0: (1000 times 70 and 9000 times -40) by 10,000 is -29
        x = Skies.under(CLIMB_FIRST.replace("chance 50 up 400", "chance 10 up 400 sign 100 0"));
        D.due("a sign that tells all", x.hawk(0), 0);
        // seen by 2,800: 10 of 100 by 28 is 35: -1 (-1.5); not: 0: -40; (-2,800 and -288,000) by 10,000 is -29.08
        x = Skies.under(CLIMB_FIRST.replace("chance 50 up 400", "chance 10 up 400 sign 100 20"));
        D.due("cut towards 0", x.hawk(0), 0);
    }

    private static void withoutStart() {
        LastCloud x = Skies.under(BY_A_CLOUD.replace("start 0 at 15;", "") + "80 up 400;");
        D.due("start", x.start(0), NOTHING);
        D.due("cost", x.cost(1), NOTHING);
        D.due("ends", x.ends(0, true), NOTHING);
        D.due("share", x.share(1), NOTHING);
        D.due("known", x.known(1), NOTHING);
        D.due("hawk", x.hawk(1), NOTHING);
        D.due("water", x.water(), NOTHING);
        state(x, 0, 0, 15, 0, false, false, 760, 100, 8000);
    }
}
