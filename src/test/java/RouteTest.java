/** Promises 43 to 46: the soonest way home round the points, all lifts being there or some. */
public final class RouteTest {
    private static final Due D = new Due("RouteTest");
    /** Each leg takes 2 periods and 10 steps, a climb at 0 or 1 wins 10. */
    private static final String SKY = "place ground 0;place ground 0;place ground 0 home;leg 0 2 miles 5 air 0 wind 0;"
        + "leg 0 1 miles 5 air 0 wind 0;leg 1 2 miles 5 air 0 wind 0;speed 60 sink 100;lift 0 chance 0 up 200;"
        + "lift 1 chance 0 up 200;";

    public static void main(String[] args) {
        straight();
        roundAPoint();
        lifts();
        pointsAtTheEnds();
        cannot();
        firstOfSeveral();
        fromTheCeiling();
        wet();
        noStart();
        D.finish();
    }

    private static void way(LastCloud x, int... places) {
        for (int i = 0; i < places.length; i++) {
            D.due("way(" + i + ")", x.way(i), places[i]);
        }
        D.due("way(" + places.length + ")", x.way(places.length), -1);
        D.due("way(-1)", x.way(-1), -1);
        D.due("way(1000000)", x.way(1000000), -1);
    }

    private static void straight() {
        LastCloud x = Skies.under(SKY + "start 0 at 20;");
        D.due("soon()", x.soon(), 2);
        way(x, 0, 2);
        D.due("soonest(0)", x.soonest(0), 2);
        D.due("key()", x.key(), -1);
    }

    private static void roundAPoint() {
        LastCloud x = Skies.under(SKY + "start 0 at 20;point 1;");
        D.due("soon()", x.soon(), 4);
        way(x, 0, 1, 2);
        D.due("soonest(0)", x.soonest(0), 4);
        D.due("key()", x.key(), -1);
        x = Skies.under(SKY + "start 0 at 10;point 1;");
        D.due("a climb more", x.soon(), 5);
        D.due("at 0", x.soonest(1), 5);
        D.due("at 1", x.soonest(2), 5);
        D.due("without", x.soonest(0), -1);
        D.due("neither is the key", x.key(), -1);
    }

    private static void lifts() {
        LastCloud x = Skies.under(SKY + "start 0 at 5;point 1;");
        D.due("soon()", x.soon(), 6);
        way(x, 0, 1, 2);
        D.due("soonest(0)", x.soonest(0), -1);
        D.due("soonest(1)", x.soonest(1), 6);
        D.due("soonest(2)", x.soonest(2), -1);
        D.due("soonest(5)", x.soonest(5), 6);
        D.due("soonest(7)", x.soonest(7), 6);
        D.due("soonest(8)", x.soonest(8), -2);
        D.due("soonest(-1)", x.soonest(-1), -2);
        D.due("key()", x.key(), 0);
        // sights change nothing here
        x.sight(0, 1);
        D.due("soon()", x.soon(), 6);
        // the second leg takes 3 periods and 15 steps; a climb at 0 wins 20, at 1 it wins 5
        x = Skies.under("place ground 0;place ground 0;place ground 0 home;leg 0 1 miles 5 air 0 wind 0;"
            + "leg 1 2 miles 10 air 0 wind 0;speed 60 sink 100;lift 0 chance 0 up 400;lift 1 chance 0 up 100;start 0 at 10;");
        D.due("a climb, 2 and 3", x.soon(), 6);
        D.due("without 0: 2, three climbs and 3", x.soonest(6), 8);
        D.due("without 1", x.soonest(5), 6);
        D.due("key()", x.key(), 0);
    }

    private static void pointsAtTheEnds() {
        LastCloud x = Skies.under(SKY + "start 0 at 20;point 0;point 2;");
        D.due("start and home are rounded", x.soon(), 2);
        way(x, 0, 2);
        x = Skies.under(SKY + "start 2 at 20;");
        D.due("at home", x.soon(), 0);
        way(x, 2);
        D.due("soonest(0)", x.soonest(0), 0);
        x = Skies.under(SKY + "start 2 at 20;point 1;");
        D.due("to 1 and back", x.soon(), 4);
        way(x, 2, 1, 2);
        x = Skies.under(SKY + "start 2 at 20;point 1;point 0;point 2;");
        D.due("10 to win", x.soon(), 7);
        way(x, 2, 0, 1, 2);
    }

    private static void cannot() {
        LastCloud x = Skies.under(SKY + "start 0 at 20;point 1;last 4;");
        D.due("at the last period", x.soon(), 4);
        x = Skies.under(SKY + "start 0 at 20;point 1;last 3;");
        D.due("beyond it", x.soon(), -1);
        D.due("no way", x.way(0), -1);
        D.due("no key", x.key(), -1);
        D.due("soonest(7)", x.soonest(7), -1);
        x = Skies.under(SKY.replace(" home", "") + "start 0 at 20;");
        D.due("no home", x.soon(), -1);
        D.due("no way", x.way(0), -1);
        x = Skies.under(SKY + "start 0 at 20;place ground 0;point 3;");
        D.due("a point out of the way", x.soon(), -1);
    }

    private static void firstOfSeveral() {
        String four = "place ground 0;place ground 0;place ground 0;place ground 0 home;speed 60 sink 100;start 0 at 40;";
        LastCloud x = Skies.under(four + "leg 0 2 miles 5 air 0 wind 0;leg 0 1 miles 5 air 0 wind 0;"
            + "leg 1 3 miles 5 air 0 wind 0;leg 2 3 miles 5 air 0 wind 0;");
        way(x, 0, 2, 3);
        x = Skies.under(four + "leg 0 1 miles 5 air 0 wind 0;leg 2 0 miles 5 air 0 wind 0;"
            + "leg 1 3 miles 5 air 0 wind 0;leg 2 3 miles 5 air 0 wind 0;");
        way(x, 0, 1, 3);
        // leg 0, a climb, leg 1 take 5; so do a climb, leg 2 over its hill and leg 3, and a climb comes ahead of legs
        x = Skies.under("place ground 0;place ground 0;place ground 0;place ground 0 home;speed 60 sink 100;start 0 at 10;"
            + "lift 0 chance 0 up 100;lift 1 chance 0 up 200;leg 0 1 miles 5 air 0 wind 0;leg 1 3 miles 5 air 0 wind 0;"
            + "leg 0 2 miles 5 air 0 wind 0 hill 10;leg 2 3 miles 5 air 60 wind 0;");
        D.due("soon()", x.soon(), 5);
        way(x, 0, 2, 3);
    }

    private static void fromTheCeiling() {
        LastCloud x = Skies.under("place ground 0;place ground 0 home;leg 0 1 miles 10 air 0 wind 0;speed 40 sink 200;"
            + "start 0 at 40;lift 0 chance 0 up 20;");
        D.due("40 lost in 4", x.soon(), 4);
        x = Skies.under("place ground 0;place ground 0 home;leg 0 1 miles 10 air 0 wind 0;speed 40 sink 200;"
            + "start 0 at 39;lift 0 chance 0 up 20;");
        D.due("a climb and 4", x.soon(), 5);
        x = Skies.under("place ground 0;place ground 1 home;leg 0 1 miles 10 air 0 wind 0;speed 40 sink 200;"
            + "start 0 at 39;lift 0 chance 0 up 2000;");
        D.due("above the ceiling is at the ceiling", x.soon(), -1);
    }

    private static void wet() {
        String wet = "water 20;turn 100;place ground 0;place ground 0 home;leg 0 1 miles 5 air 0 wind 0;"
            + "lift 0 chance 0 up 120;speed 60 sink 100;start 0 at ";
        D.due("with water 1", Skies.under(wet + "8 wet;").soon(), 1);
        D.due("without 2 climbs and 2", Skies.under(wet + "8;").soon(), 4);
        D.due("it is never let go", Skies.under(wet + "4 wet;").soon(), -1);
        D.due("without 6 climbs and 2", Skies.under(wet + "4;").soon(), 8);
    }

    private static void noStart() {
        for (LastCloud x : new LastCloud[] {new LastCloud(), Skies.under(SKY)}) {
            D.due("soon()", x.soon(), -2);
            D.due("way(0)", x.way(0), -2);
            D.due("soonest(0)", x.soonest(0), -2);
            D.due("key()", x.key(), -2);
        }
    }
}
