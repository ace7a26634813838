/** Promises 6 to 18, 29 and 30: legs, lifts, signs, gliding without a lift, the table of speeds. */
public final class LegTest {
    private static final Due D = new Due("LegTest");
    private static final int NOTHING = -2000000000;
    private static final String SKY = "turn 100;water 20;ceiling 35;"
        + "place ground 2;place ground 5 field 300;place ground 1 home;"
        + "leg 0 1 miles 10 air 0 wind 10;"
        + "leg 1 2 miles 6 air 50 down wind 5 down hill 12;"
        + "leg 0 2 miles 20 air 0 wind 0;"
        + "lift 0 chance 60 up 500 sign 80 20;lift 1 chance 0 up 309;"
        + "speed 50 sink 100;speed 80 sink 200;";

    public static void main(String[] args) {
        periodsAndLoss();
        strangeAir();
        climbs();
        chances();
        signs();
        glides();
        hills();
        edgesAndTours();
        speeds();
        streets();
        D.finish();
    }

    private static void leg(LastCloud x, int leg, boolean back, int speed, boolean wet, int periods, int loss) {
        String call = "(" + leg + ", " + back + ", " + speed + ", " + wet + ")";
        D.due("periods" + call, x.periods(leg, back, speed, wet), periods);
        D.due("loss" + call, x.loss(leg, back, speed, wet), loss);
    }

    private static void periodsAndLoss() {
        LastCloud x = Skies.under(SKY);
        // 50 and 10 of wind: 120 by 60 is 2, and 1; 5 times 3 times 100 by 100
        leg(x, 0, false, 0, false, 3, 15);
        leg(x, 0, false, 1, false, 2, 20);
        leg(x, 0, true, 0, false, 4, 20);
        leg(x, 0, true, 1, false, 2, 20);
        // with water 60 and 96
        leg(x, 0, false, 0, true, 2, 10);
        leg(x, 0, true, 0, true, 3, 15);
        leg(x, 0, true, 1, true, 2, 20);
        // wind against the first to the second: 45 over the ground; air that sinks 50
        leg(x, 1, false, 0, false, 2, 15);
        // 5 times 1 times 250 by 100 is 12.5
        leg(x, 1, false, 1, false, 1, 12);
        leg(x, 1, true, 0, false, 2, 15);
        leg(x, 2, false, 0, false, 5, 25);
        leg(x, 2, true, 1, false, 4, 40);
        leg(x, 2, true, 1, true, 3, 30);
        leg(x, 3, false, 0, false, -2, NOTHING);
        leg(x, -1, false, 0, false, -2, NOTHING);
        leg(x, 0, false, 2, false, -2, NOTHING);
        leg(x, 0, false, -1, true, -2, NOTHING);
        leg(x, Integer.MAX_VALUE, true, Integer.MIN_VALUE, true, -2, NOTHING);
    }

    private static void strangeAir() {
        LastCloud x = Skies.under("place ground 0;place ground 0;speed 20 sink 100;speed 21 sink 103;speed 60 sink 999;"
            + "leg 0 1 miles 60 air 999 wind 20;leg 0 1 miles 1 air 101 wind 0;leg 0 1 miles 60 air 999 down wind 60;");
        // 0 over the ground: it can't be flown; 1: 720 and 1 periods
        leg(x, 0, true, 0, false, -1, NOTHING);
        leg(x, 0, true, 1, false, 721, 5 * 721 * (103 - 999) / 100);
        leg(x, 0, false, 0, false, 19, -854); // 5 * 19 * -899 / 100 = -854.05
        leg(x, 1, false, 0, false, 1, 0);     // -0.05
        leg(x, 1, false, 1, false, 1, 0);     // 0.1
        leg(x, 2, true, 2, false, -1, NOTHING);
        leg(x, 2, false, 2, false, 7, 699);   // 5 * 7 * 1998 / 100 = 699.3
        // no water is told: as without
        leg(x, 0, true, 1, true, 721, 5 * 721 * (103 - 999) / 100);
        // 50 in the hundred of 21 is 10.5: 31
        x = Skies.under("water 50;place ground 0;place ground 0;speed 21 sink 100;leg 0 1 miles 60 air 0 wind 0;");
        leg(x, 0, true, 0, true, 24, 120);
        leg(x, 0, true, 0, false, 35, 175);
        // 21 and 7 in the hundred of it is 22.47
        x = Skies.under("water 7;place ground 0;place ground 0;speed 21 sink 100;leg 0 1 miles 60 air 0 wind 22 down;");
        leg(x, 0, false, 0, false, -1, NOTHING);
        leg(x, 0, false, 0, true, -1, NOTHING);
        x = Skies.under("water 7;place ground 0;place ground 0;speed 21 sink 100;leg 0 1 miles 60 air 0 wind 21 down;");
        leg(x, 0, false, 0, true, 721, 3605);
    }

    private static void climbs() {
        LastCloud x = Skies.under(SKY);
        D.due("climb(0, false)", x.climb(0, false), 20);
        D.due("climb(0, true)", x.climb(0, true), 15);
        // 309 less 61 (61.8) less 100 is 148, five times by 100 is 7.4
        D.due("climb(1, false)", x.climb(1, false), 10);
        D.due("climb(1, true)", x.climb(1, true), 7);
        D.due("no lift", x.climb(2, false), 0);
        D.due("climb(3, false)", x.climb(3, false), -2);
        D.due("climb(-1, false)", x.climb(-1, false), -2);
        // 20 in the hundred of 101 is 20.2, cut 20: 81 less 61 is 20: one step
        x = Skies.under("turn 61;water 20;place ground 0;lift 0 chance 0 up 101;place ground 0;lift 1 chance 9 up 60;");
        D.due("the water's part is cut", x.climb(0, true), 1);
        D.due("0 at least", x.climb(1, false), 0);
        D.due("0 at least with water", x.climb(1, true), 0);
    }

    private static void chances() {
        LastCloud x = Skies.under(SKY);
        D.due("chance(0)", x.chance(0), 60);
        D.due("chance(1)", x.chance(1), 0);
        D.due("chance(2)", x.chance(2), 0);
        D.due("chance(3)", x.chance(3), -2);
        D.due("chance(-1)", x.chance(-1), -2);
        // 60 of 80, 40 of 20: 4800 by 5600 is 85.7
        D.due("sight(0, 2)", x.sight(0, 2), 1);
        D.due("seen", x.chance(0), 85);
        // 85 of 20, 15 of 80: 1700 by 2900 is 58.6
        D.due("sight(0, 3)", x.sight(0, 3), 2);
        D.due("not seen", x.chance(0), 58);
        D.due("sight(0, 1)", x.sight(0, 1), 3);
        D.due("does not climb", x.chance(0), 0);
        D.due("sight(0, 2)", x.sight(0, 2), 4);
        D.due("0 stays 0", x.chance(0), 0);
        D.due("sight(0, 0)", x.sight(0, 0), 5);
        D.due("climbs", x.chance(0), 100);
        D.due("of it alone", x.chance(1), 0);
        D.due("a lift of chance 0", x.sight(1, 0), 6);
        D.due("climbs there", x.chance(1), 100);
        D.due("no lift", x.sight(2, 0), 7);
        D.due("climbs there", x.chance(2), 100);
        D.due("no sort", x.sight(0, 4), -2);
        D.due("no sort", x.sight(0, -1), -2);
        D.due("no place", x.sight(3, 0), -2);
        D.due("no place", x.sight(-1, 0), -2);
        D.due("unsee(-1)", x.unsee(-1), -2);
        D.due("unsee(8)", x.unsee(8), -2);
        D.due("unsee(0)", x.unsee(0), 7);
        D.due("unsee(3)", x.unsee(3), 4);
        D.due("climbing is unseen", x.chance(0), 0);
        D.due("unsee(2)", x.unsee(2), 2);
        D.due("back to the signs", x.chance(0), 58);
        D.due("unsee(2)", x.unsee(2), 0);
        D.due("as told", x.chance(0), 60);
        D.due("unsee(1)", x.unsee(1), -2);
        // 80 of 20 and 20 of 80 are alike: 50
        LastCloud y = Skies.under("place ground 0;lift 0 chance 80 up 0 sign 20 80;");
        y.sight(0, 2);
        D.due("alike", y.chance(0), 50);
        D.due("alike", y.sign(0, true), 5000);
        // no sign is told: seen it says nothing (by 0), nor unseen
        x.sight(1, 0);
        D.due("100", x.chance(1), 100);
        for (int i = 2; i <= 20; i++) {
            D.due("sight " + i, x.sight(1, 2 + i % 2), i);
        }
        D.due("100 still", x.chance(1), 100);
        D.due("the 21st", x.sight(1, 0), -3);
        D.due("the 21st, of no place", x.sight(3, 0), -2);
        D.due("20", x.count(5), 20);
        signsThatCannotBe();
    }

    private static void signsThatCannotBe() {
        LastCloud x = Skies.under("place ground 0;lift 0 chance 100 up 0 sign 0 50;place ground 0;lift 1 chance 0 up 0 sign 9 100;");
        D.due("seen, though it can't be", x.sight(0, 2), 1);
        D.due("as it is", x.chance(0), 100);
        D.due("not seen, though it can't be", x.sight(1, 3), 2);
        D.due("as it is", x.chance(1), 0);
        D.due("sign(0, true)", x.sign(0, true), -1);
        D.due("sign(0, false)", x.sign(0, false), 10000);
        D.due("sign(1, true)", x.sign(1, true), 0);
        D.due("sign(1, false)", x.sign(1, false), -1);
    }

    private static void signs() {
        LastCloud x = Skies.under(SKY);
        // 48,000,000 by 5600 is 8571.4; 60 of 20, 40 of 80: 12,000,000 by 4400 is 2727.3
        D.due("sign(0, true)", x.sign(0, true), 8571);
        D.due("sign(0, false)", x.sign(0, false), 2727);
        x.sight(0, 1);
        D.due("the sign alone", x.sign(0, true), 8571);
        D.due("no sign", x.sign(1, true), -1);
        D.due("no sign, not seen", x.sign(1, false), 0);
        D.due("no lift", x.sign(2, true), -1);
        D.due("no lift, not seen", x.sign(2, false), 0);
        D.due("sign(3, true)", x.sign(3, true), -2);
        D.due("sign(-1, false)", x.sign(-1, false), -2);
        x = Skies.under("place ground 0;lift 0 chance 37 up 0;");
        D.due("a lift without a sign", x.sign(0, true), -1);
        D.due("unseen", x.sign(0, false), 3700);
    }

    private static void glides() {
        LastCloud x = Skies.under(SKY);
        D.due("15 lost", x.reach(0, 25, 1, false), 10);
        D.due("10 lost with water", x.reach(0, 25, 1, true), 15);
        D.due("too far", x.reach(0, 25, 2, false), -1);
        D.due("26 is enough", x.reach(0, 26, 2, false), 1);
        D.due("straight: 10; by 1 and over the hill: 8", x.reach(0, 35, 2, false), 10);
        D.due("with water 25 to 1, 13 to 2", x.reach(0, 35, 2, true), 13);
        D.due("ground 5", x.reach(0, 20, 1, false), 5);
        D.due("below it", x.reach(0, 19, 1, false), -1);
        D.due("back", x.reach(1, 24, 0, false), 4);
        D.due("where one is", x.reach(1, 24, 1, false), 24);
        D.due("below the ground one is not", x.reach(0, 1, 0, false), -2);
        D.due("above the ceiling", x.reach(0, 36, 1, false), -2);
        D.due("below 0", x.reach(0, -1, 1, false), -2);
        D.due("at 0, below the ground", x.reach(0, 0, 0, false), -2);
        D.due("at 0", Skies.under("place ground 0;").reach(0, 0, 0, false), 0);
        D.due("at 0", Skies.under("place ground 0 home;").fields(0, 0, true), 1);
        D.due("no place", x.reach(3, 20, 1, false), -2);
        D.due("no place", x.reach(0, 20, 3, false), -2);
        D.due("no place", x.reach(-1, 20, -1, false), -2);
        D.due("fields(0, 25)", x.fields(0, 25, false), 2);
        D.due("fields(0, 19)", x.fields(0, 19, false), 0);
        D.due("fields(0, 19) with water", x.fields(0, 19, true), 2);
        D.due("fields(0, 26)", x.fields(0, 26, false), 6);
        D.due("fields(1, 5)", x.fields(1, 5, false), 2);
        D.due("below the ground", x.fields(1, 4, false), -2);
        D.due("no place", x.fields(3, 20, false), -2);
        D.due("no height", x.fields(0, 36, false), -2);
        D.due("no height", x.fields(0, -1, true), -2);
        // rising air lifts to the ceiling, not above: from 3 to 40, and 10 are lost behind it
        x = Skies.under("place ground 0;place ground 0;place ground 0 home;speed 60 sink 100;"
            + "leg 0 1 miles 5 air 999 wind 0;leg 1 2 miles 5 air 0 wind 0;");
        D.due("rises 89", x.loss(0, false, 0, false), -89);
        D.due("held to the ceiling", x.reach(0, 3, 1, false), 40);
        D.due("behind it", x.reach(0, 3, 2, false), 30);
        D.due("round and back", x.reach(0, 3, 0, true), 40);
    }

    private static void hills() {
        // 15 lost: half of it is 7 (7.5 cut)
        LastCloud x = Skies.under("place ground 0;place ground 0 home;speed 45 sink 150;leg 0 1 miles 5 air 0 wind 0 hill 12;");
        D.due("loss", x.loss(0, false, 0, false), 15);
        D.due("over the hill", x.reach(0, 19, 1, false), 4);
        D.due("not over it", x.reach(0, 18, 1, false), -1);
        x = Skies.under("place ground 0;place ground 0 home;speed 45 sink 150;leg 0 1 miles 5 air 150 wind 0;");
        D.due("no hill", x.reach(0, 0, 1, false), 0);
        // 3 won: half of it is 1
        x = Skies.under("place ground 0;place ground 0 home;speed 60 sink 100;leg 0 1 miles 4 air 160 wind 0 hill 12;");
        D.due("won", x.loss(0, false, 0, false), -3);
        D.due("over the hill, and to and fro", x.reach(0, 11, 1, false), 40);
        D.due("not over it", x.reach(0, 10, 1, false), -1);
    }

    private static void edgesAndTours() {
        LastCloud x = Skies.under(SKY);
        D.due("edge(0)", x.edge(0, false), 20);
        D.due("edge(0) with water", x.edge(0, true), 15);
        D.due("a field's ground", x.edge(1, false), 5);
        D.due("home's ground", x.edge(2, true), 1);
        D.due("edge(3)", x.edge(3, false), -2);
        D.due("edge(-1)", x.edge(-1, false), -2);
        D.due("tour(0, 25)", x.tour(0, 25, false), 3);
        D.due("tour(0, 19)", x.tour(0, 19, false), 0);
        D.due("tour(0, 19) with water", x.tour(0, 19, true), 3);
        D.due("tour(0, 35)", x.tour(0, 35, false), 7);
        D.due("below the ground", x.tour(0, 1, false), -2);
        D.due("no place", x.tour(3, 20, false), -2);
        D.due("no height", x.tour(0, 36, false), -2);
        D.due("no height", x.tour(0, -1, false), -2);
        // from 0 one comes to 1 at 10 and to 2 at 20; from 2 alone a field is reached (15 are lost)
        x = Skies.under("place ground 0;place ground 0;place ground 0;place ground 5 field 0;speed 60 sink 100;"
            + "leg 0 1 miles 12 air 0 wind 0;leg 0 2 miles 5 air 0 wind 0;leg 2 3 miles 12 air 0 wind 0;");
        D.due("edge(2)", x.edge(2, false), 20);
        D.due("edge(0)", x.edge(0, false), 30);
        D.due("none", Skies.under("place ground 0;").edge(0, false), -1);
        D.due("edge(1): 45 is above the ceiling", x.edge(1, false), -1);
        String one = "place ground 0;place ground 0 home;leg 0 1 miles 10 air 0 wind 0;speed 40 sink 200;";
        D.due("40 lost, from the ceiling", Skies.under(one).edge(0, false), 40);
        D.due("that is too low", Skies.under(one + "ceiling 39;").edge(0, false), -1);
        D.due("from the ceiling", Skies.under(one).reach(0, 40, 1, false), 0);
        D.due("tour(0, 30)", x.tour(0, 30, false), 13);
        D.due("tour(0, 29)", x.tour(0, 29, false), 0);
        D.due("fields", x.fields(0, 30, false), 8);
    }

    private static void speeds() {
        LastCloud x = new LastCloud();
        D.due("no speeds", x.fast(1), -1);
        D.due("no speeds", x.average(2000), -1);
        D.due("no speeds", x.farthest(), -1);
        D.due("no such climb", x.fast(0), -2);
        D.due("no such climb", x.average(2001), -2);
        x = Skies.under("speed 60 sink 100;speed 100 sink 500;");
        // 60 times 400 by 500 is 48, 100 times 400 by 900 is 44
        D.due("fast(400)", x.fast(400), 0);
        D.due("average(400)", x.average(400), 480);
        // 60 times 500 by 600 is 50, 100 times 500 by 1000 is 50: the first
        D.due("fast(500)", x.fast(500), 0);
        D.due("fast(501)", x.fast(501), 1);
        D.due("fast(2000)", x.fast(2000), 1);
        D.due("average(2000)", x.average(2000), 800);
        D.due("average(1)", x.average(1), 5); // 600 by 101
        D.due("average(501)", x.average(501), 500); // 501,000 by 1001 is 500.4
        D.due("fast(2001)", x.fast(2001), -2);
        D.due("fast(-1)", x.fast(-1), -2);
        D.due("average(0)", x.average(0), -2);
        D.due("farthest", x.farthest(), 0);
        x = Skies.under("speed 100 sink 500;speed 60 sink 100;speed 120 sink 200;");
        D.due("the first of like ones", x.farthest(), 1);
        // unlike as fractions, alike if cut: 20 by 19, 21 by 19.95
        x = Skies.under("speed 100 sink 99;speed 99 sink 98;");
        D.due("fractions", x.farthest(), 1);
        x = Skies.under("speed 150 sink 999;speed 149 sink 998;");
        D.due("fractions", x.fast(2000), 0);
        D.due("fractions", x.fast(1), 0);
    }

    private static void streets() {
        D.due("no places", new LastCloud().street(), 0);
        D.due("no legs", Skies.under("place ground 0;place ground 0;").street(), 1);
        D.due("no speeds", Skies.under("place ground 0;place ground 0;leg 0 1 miles 1 air 999 wind 0;").street(), 1);
        String four = "place ground 0;place ground 9;place ground 0;place ground 0;speed 40 sink 200;speed 60 sink 300;";
        // with the wind 0.5 is lost (0), against it 1
        String lossless = "miles 5 air 190 wind 25;";
        LastCloud x = Skies.under(four + "leg 0 1 " + lossless + "leg 1 2 " + lossless + "leg 2 3 " + lossless);
        D.due("with the wind", x.loss(0, false, 0, false), 0);
        D.due("against the wind", x.loss(0, true, 0, false), 2);
        D.due("a chain", x.street(), 4);
        x = Skies.under(four + "leg 0 1 " + lossless + "leg 2 1 " + lossless + "leg 2 3 " + lossless);
        D.due("one leg stands the other way", x.street(), 2);
        x = Skies.under(four + "leg 0 1 " + lossless + "leg 1 2 " + lossless + "leg 2 0 " + lossless);
        D.due("a round, each once", x.street(), 3);
        x = Skies.under(four + "leg 0 1 miles 5 air 200 wind 0;leg 0 2 miles 5 air 200 wind 0;leg 0 3 miles 5 air 200 wind 0;");
        D.due("a star, both ways", x.street(), 3);
        x = Skies.under(four + "leg 0 1 miles 5 air 300 wind 45 down hill 40;");
        D.due("by the second speed, over any hill", x.street(), 2);
        x = Skies.under("water 50;" + four + "leg 0 1 miles 4 air 185 wind 0;");
        D.due("with water nothing is lost", x.loss(0, false, 0, true), 0);
        D.due("without it a step is", x.loss(0, false, 0, false), 1);
        D.due("without water", x.street(), 1);
    }
}
