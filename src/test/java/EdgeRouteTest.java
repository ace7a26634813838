/** The boundary cases that Term VIII and promises 43 to 46 name: a test for each sentence that names one. */
public final class EdgeRouteTest {
    private static final Due D = new Due("EdgeRouteTest");
    private static final int MAX = Integer.MAX_VALUE;
    private static final int MIN = Integer.MIN_VALUE;
    /** Each leg takes 2 periods and 10 steps. */
    private static final String LEGS = "place ground 0;place ground 0;place ground 0 home;leg 0 1 miles 5 air 0 wind 0;"
        + "leg 1 2 miles 5 air 0 wind 0;speed 60 sink 100;";
    /** A climb at 0 or 1 wins 10. */
    private static final String ROUTE = LEGS + "lift 0 chance 0 up 200;lift 1 chance 0 up 200;";

    public static void main(String[] args) {
        chancesAreAHundred();
        neverLetGo();
        roundedByBeingThere();
        soonAtHome();
        soonAtTheLastPeriod();
        oneCannot();
        noStart();
        noMorePlaces();
        theFirstWay();
        theHeightOnTheWay();
        noSuchSet();
        setsOfNoneAndAll();
        noKey();
        theKeyThatCannotBe();
        theFirstKeyOfSeveral();
        D.finish();
    }

    private static void way(LastCloud x, int... places) {
        for (int i = 0; i < places.length; i++) {
            D.due("way(" + i + ")", x.way(i), places[i]);
        }
        D.due("way(" + places.length + ")", x.way(places.length), -1);
    }

    /** "all CHANCES 100 (or of a set, others 0)": whatever is told or seen. */
    private static void chancesAreAHundred() {
        LastCloud x = Skies.under(ROUTE + "start 0 at 10;");
        D.due("a climb and two legs", x.soon(), 5);
        x.sight(0, 1);
        x.sight(1, 1);
        D.due("whatever is seen", x.soon(), 5);
        D.due("at 0 alone", x.soonest(1), 5);
        D.due("at 1 alone", x.soonest(2), 5);
        x.sight(2, 0);
        D.due("others 0", x.soonest(4), -1);
        D.due("others 0", x.soonest(0), -1);
    }

    /** "water as at the START, never let go": with it a climb wins 0, the leg takes 1 and 5. */
    private static void neverLetGo() {
        String wet = "water 20;turn 100;place ground 0;place ground 0 home;leg 0 1 miles 5 air 0 wind 0;"
            + "lift 0 chance 0 up 120;speed 60 sink 100;start 0 at ";
        D.due("at its edge", Skies.under(wet + "5 wet;").soon(), 1);
        D.due("below it", Skies.under(wet + "4 wet;").soon(), -1);
        D.due("no way", Skies.under(wet + "4 wet;").way(0), -1);
        D.due("without: 6 climbs and 2", Skies.under(wet + "4;").soon(), 8);
        D.due("without: 10 climbs and 2", Skies.under(wet + "0;").soon(), 12);
        D.due("water 0 is none", Skies.under(ROUTE + "start 0 at 10 wet;").soon(), 5);
    }

    /** "POINTS are rounded by being there": at the START, at home, on the way. */
    private static void roundedByBeingThere() {
        LastCloud x = Skies.under(ROUTE + "start 0 at 20;point 0;point 1;point 2;");
        D.due("all on the way", x.soon(), 4);
        way(x, 0, 1, 2);
        x = Skies.under(ROUTE + "start 1 at 30;point 0;");
        D.due("back and on", x.soon(), 6);
        way(x, 1, 0, 1, 2);
        x = Skies.under(ROUTE + "start 2 at 20;point 1;");
        D.due("from home and back", x.soon(), 4);
        way(x, 2, 1, 2);
        x = Skies.under(ROUTE + "start 2 at 20;point 2;");
        D.due("rounded at once", x.soon(), 0);
        way(x, 2);
        x = Skies.under(ROUTE + "start 2 at 40;point 0;point 1;");
        D.due("over home to the last", x.soon(), 8);
        way(x, 2, 1, 0, 1, 2);
    }

    /** soon: 0 PERIODS at home, on its very ground. */
    private static void soonAtHome() {
        LastCloud x = Skies.under(ROUTE + "start 2 at 0;");
        D.due("soon", x.soon(), 0);
        D.due("soonest(0)", x.soonest(0), 0);
        D.due("key", x.key(), -1);
        way(x, 2);
    }

    /** "these as in V": the last PERIOD may be reached, not gone beyond. */
    private static void soonAtTheLastPeriod() {
        D.due("4 of 4", Skies.under(ROUTE + "start 0 at 20;last 4;").soon(), 4);
        D.due("4 of 3", Skies.under(ROUTE + "start 0 at 20;last 3;").soon(), -1);
        D.due("with a climb 5 of 5", Skies.under(ROUTE + "start 0 at 10;last 5;").soon(), 5);
        D.due("5 of 4", Skies.under(ROUTE + "start 0 at 10;last 4;").soon(), -1);
        // 42 climbs of 1 and two legs of 2 and 21
        String slow = LEGS.replace("sink 100", "sink 215") + "lift 0 chance 0 up 20;ceiling 60;start 0 at 0;last ";
        D.due("two legs of 21", Skies.under(slow + "47;").loss(0, false, 0, false), 21);
        D.due("42 climbs and 4", Skies.under(slow + "47;").soon(), 46);
        D.due("to the last period", Skies.under(slow + "46;").soon(), 46);
        D.due("a period too few", Skies.under(slow + "45;").soon(), -1);
    }

    /** soon: "NONE: one can't." */
    private static void oneCannot() {
        LastCloud[] none = {Skies.under(ROUTE.replace(" home", "") + "start 0 at 40;"), Skies.under(LEGS + "start 0 at 19;"),
            Skies.under(ROUTE + "start 0 at 40;place ground 0;point 3;"),
            Skies.under("place ground 0;place ground 0 home;start 0 at 40;")};
        for (LastCloud x : none) {
            D.due("soon", x.soon(), -1);
            D.due("way(0)", x.way(0), -1);
            D.due("soonest(0)", x.soonest(0), -1);
            D.due("key", x.key(), -1);
        }
        D.due("20 are enough", Skies.under(LEGS + "start 0 at 20;").soon(), 4);
    }

    /** "-2: no START", "-2 likewise": whatever is asked. */
    private static void noStart() {
        for (LastCloud x : new LastCloud[] {new LastCloud(), Skies.under(ROUTE)}) {
            D.due("soon", x.soon(), -2);
            D.due("key", x.key(), -2);
            for (int i : new int[] {0, 1, -1, 100, MAX, MIN}) {
                D.due("way(" + i + ")", x.way(i), -2);
                D.due("soonest(" + i + ")", x.soonest(i), -2);
            }
        }
    }

    /** way: "(.. the START is the first); NONE: not so many." */
    private static void noMorePlaces() {
        LastCloud x = Skies.under(ROUTE + "start 0 at 10;");
        way(x, 0, 1, 2);
        for (int none : new int[] {-1, 3, 4, 100, MAX, MIN}) {
            D.due("way(" + none + ")", x.way(none), -1);
        }
    }

    /** "of those with the fewest PERIODS the first, DEED by DEED (climbing ahead of LEGS; these as in V)". */
    private static void theFirstWay() {
        String four = "place ground 0;place ground 0;place ground 0;place ground 0 home;speed 60 sink 100;start 0 at 40;";
        String leg = " miles 5 air 0 wind 0;";
        way(Skies.under(four + "leg 2 0" + leg + "leg 1 0" + leg + "leg 1 3" + leg + "leg 2 3" + leg), 0, 2, 3);
        way(Skies.under(four + "leg 1 0" + leg + "leg 2 0" + leg + "leg 2 3" + leg + "leg 1 3" + leg), 0, 1, 3);
        // one climb of 10 at 0, at 1 or at 2 is as soon; the one at 0 comes first, and then leg 0
        String climbs = four.replace("at 40", "at 10") + "lift 0 chance 0 up 200;lift 1 chance 0 up 200;lift 2 chance 0 up 200;";
        way(Skies.under(climbs + "leg 0 2" + leg + "leg 0 1" + leg + "leg 1 3" + leg + "leg 2 3" + leg), 0, 2, 3);
        // over a hill to 2 one climbs first, to 1 one climbs there: the climb comes ahead of leg 0
        String hill = " miles 5 air 0 wind 0 hill 10;";
        way(Skies.under(climbs.replace("lift 0 chance 0 up 200", "lift 0 chance 0 up 100") + "leg 0 1" + leg + "leg 0 2" + hill
            + "leg 1 3" + leg + "leg 2 3 miles 5 air 50 wind 0;"), 0, 2, 3);
    }

    /** "these as in V": each from the height at which one is then: 10 are lost to 1, and 25 are due there for the hill. */
    private static void theHeightOnTheWay() {
        String sky = "place ground 0;place ground 0;place ground 0;place ground 0;place ground 0 home;speed 60 sink 100;"
            + "leg 0 1 miles 5 air 0 wind 0;leg 1 2 miles 5 air 100 wind 0 hill 25;leg 1 3 miles 5 air 100 wind 0;"
            + "leg 2 4 miles 5 air 100 wind 0;leg 3 4 miles 5 air 100 wind 0;start 0 at ";
        way(Skies.under(sky + "35;"), 0, 1, 2, 4);
        way(Skies.under(sky + "34;"), 0, 1, 3, 4);
        D.due("as soon", Skies.under(sky + "34;").soon(), 6);
    }

    /** soonest: "-2 likewise, there is no such set": bits of PLACES that are none. */
    private static void noSuchSet() {
        LastCloud x = Skies.under(ROUTE + "start 0 at 20;");
        for (int none : new int[] {8, 9, 15, 128, 256, -1, -8, MAX, MIN}) {
            D.due("soonest(" + none + ")", x.soonest(none), -2);
        }
        StringBuilder eight = new StringBuilder();
        for (int i = 0; i < 8; i++) {
            eight.append("place ground 0").append(i == 0 ? " home;" : ";");
        }
        x = Skies.under(eight + "start 0 at 0;");
        D.due("all eight", x.soonest(255), 0);
        D.due("a ninth", x.soonest(256), -2);
    }

    /** soonest: "LIFTS of a set of PLACES (bits) alone": none, all, one of which has no LIFT. */
    private static void setsOfNoneAndAll() {
        LastCloud x = Skies.under(ROUTE + "start 0 at 0;");
        int[] soonest = {-1, 6, -1, 6, -1, 6, -1, 6};
        for (int lifts = 0; lifts < 8; lifts++) {
            D.due("soonest(" + lifts + ")", x.soonest(lifts), soonest[lifts]);
        }
        D.due("as soon()", x.soon(), 6);
    }

    /** key: "NONE: none makes it longer." */
    private static void noKey() {
        D.due("no climb", Skies.under(ROUTE + "start 0 at 20;").key(), -1);
        D.due("the other one does", Skies.under(ROUTE + "start 0 at 10;").key(), -1);
        D.due("no lift", Skies.under(LEGS + "start 0 at 20;").key(), -1);
        D.due("one can't anyway", Skies.under(LEGS + "start 0 at 19;").key(), -1);
    }

    /** key: "without whose LIFT that takes longest, or can't be". */
    private static void theKeyThatCannotBe() {
        D.due("longer: two climbs of 5 at 0", Skies.under(LEGS + "lift 0 chance 0 up 100;lift 1 chance 0 up 200;start 0 at 10;")
            .key(), 1);
        // without that of 0, which stands between, three climbs at 1: 7; without that of 1 one can't
        LastCloud x = Skies.under("place ground 0;place ground 0;place ground 0 home;leg 1 0 miles 5 air 0 wind 0;"
            + "leg 0 2 miles 5 air 0 wind 0;speed 60 sink 100;lift 1 chance 0 up 100;lift 0 chance 0 up 200;start 1 at 5;");
        D.due("soon", x.soon(), 6);
        D.due("without 0", x.soonest(6), 7);
        D.due("without 1", x.soonest(5), -1);
        D.due("key", x.key(), 1);
    }

    /** key: "the first of several". */
    private static void theFirstKeyOfSeveral() {
        // the second leg loses 35: from 40 at 0 one is at 30 at 1; the first loses 10
        LastCloud x = Skies.under(LEGS.replace("leg 1 2 miles 5 air 0", "leg 1 2 miles 5 air 250 down")
            + "lift 0 chance 0 up 200;lift 1 chance 0 up 200;start 0 at 0;");
        D.due("two can't", x.soonest(6), -1);
        D.due("two can't", x.soonest(5), -1);
        D.due("the first", x.key(), 0);
        // at 0 and at 1 a climb wins 10, at 10 and 20 it is needed once each: a lift at the first alone is as good
        x = Skies.under(LEGS + "lift 0 chance 0 up 400;lift 1 chance 0 up 400;start 0 at 10;");
        D.due("none", x.key(), -1);
    }
}
