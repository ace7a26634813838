/** The boundary cases that Terms II to IV and promises 6 to 18, 29 and 30 name: a test for each sentence that names one. */
public final class EdgeLegTest {
    private static final Due D = new Due("EdgeLegTest");
    private static final int NOTHING = -2000000000;
    private static final int MAX = Integer.MAX_VALUE;
    private static final int MIN = Integer.MIN_VALUE;
    private static final String TWO = "place ground 0;place ground 0;";
    /** The leg takes 2 periods and 10 steps: from 0 to 1 one must be 15 high, back 13. */
    private static final String HOP = "place ground 3;place ground 5 home;leg 0 1 miles 5 air 0 wind 0;speed 60 sink 100;";

    public static void main(String[] args) {
        belowOneOverTheGround();
        fasterByWaterCut();
        periodsAreCutAndOneMore();
        lossIsCutTowardsZero();
        aLiftWinsZeroAtLeast();
        aboveTheCeilingIsAtIt();
        aHillIsFlownOver();
        halfOfALossIsCut();
        besideTheHill();
        zeroAtFirstWithoutALift();
        byGliders();
        inTheirOrder();
        byNothingItStays();
        aSignThatIsNotTold();
        aLiftOfChanceZero();
        inTheHundredCut();
        noSuchLegOrSpeed();
        legsThatCannotBeFlown();
        waterThatIsNotHad();
        noSuchClimb();
        noSuchChance();
        noSuchSight();
        twentySights();
        unseeing();
        signsThatCannotBe();
        noSuchSign();
        noSuchReach();
        reachFromTheGround();
        reachThatCannotBe();
        reachWithoutWater();
        noSuchFields();
        fieldsFromTheGround();
        anEdgeOnTheGround();
        anEdgeAtTheCeiling();
        anEdgeFarAway();
        allLegsByAllSpeeds();
        noEdge();
        noSuchEdge();
        fastBounds();
        fastOfNone();
        fastOfLikeOnes();
        averageIsCut();
        farthestOfNoneAndLikeOnes();
        noSuchTour();
        toursFromTheGround();
        noStreet();
        streetsWithoutLoss();
        streetsEachOnce();
        streetsThatCannotBeFlown();
        streetsWithoutWater();
        D.finish();
    }

    private static void leg(LastCloud x, int leg, boolean back, int speed, boolean wet, int periods, int loss) {
        String call = "(" + leg + ", " + back + ", " + speed + ", " + wet + ")";
        D.due("periods" + call, x.periods(leg, back, speed, wet), periods);
        D.due("loss" + call, x.loss(leg, back, speed, wet), loss);
    }

    // ---- Term II ----

    /** "it can't be flown, if that is below 1": 0 and less can't, 1 can. */
    private static void belowOneOverTheGround() {
        LastCloud x = Skies.under(TWO + "speed 21 sink 100;speed 20 sink 100;leg 0 1 miles 60 air 100 wind 20;"
            + "leg 0 1 miles 60 air 100 wind 21 down;leg 0 1 miles 1 air 100 wind 60;");
        leg(x, 0, true, 0, false, 721, 0);
        leg(x, 0, true, 1, false, -1, NOTHING);
        leg(x, 1, false, 0, false, -1, NOTHING);
        leg(x, 1, false, 1, false, -1, NOTHING);
        leg(x, 2, true, 1, false, -1, NOTHING);
        leg(x, 2, false, 1, false, 1, 0);
    }

    /** "with water faster by water in the hundred (cut)": 9 in the hundred of 20 is 1.8: 21. */
    private static void fasterByWaterCut() {
        String sky = TWO + "speed 20 sink 100;leg 0 1 miles 60 air 100 wind 20 down;leg 0 1 miles 60 air 100 wind 21 down;water ";
        LastCloud x = Skies.under(sky + "9;");
        leg(x, 0, false, 0, true, 721, 0);
        leg(x, 0, false, 0, false, -1, NOTHING);
        leg(x, 1, false, 0, true, -1, NOTHING);
        x = Skies.under(sky + "4;");
        leg(x, 0, false, 0, true, -1, NOTHING);
        x = Skies.under(sky + "10;");
        leg(x, 1, false, 0, true, 721, 0);
        // 50 in the hundred of 99 is 49.5: 148 less 60, and 264 by 88 is 3
        x = Skies.under(TWO + "speed 99 sink 100;leg 0 1 miles 22 air 100 wind 60 down;water 50;");
        leg(x, 0, false, 0, true, 4, 0);
        // of 150 it is 75: 225 less 60, and 660 by 165 is 4
        x = Skies.under(TWO + "speed 150 sink 100;leg 0 1 miles 55 air 100 wind 60 down;water 50;");
        leg(x, 0, false, 0, true, 5, 0);
    }

    /** "It takes 12 times miles by that PERIODS, cut, and 1 more." */
    private static void periodsAreCutAndOneMore() {
        int[] miles = {1, 4, 5, 9, 10, 60};
        int[] periods = {1, 1, 2, 2, 3, 13};
        for (int i = 0; i < miles.length; i++) {
            LastCloud x = Skies.under(TWO + "speed 60 sink 100;leg 0 1 miles " + miles[i] + " air 100 wind 0;");
            leg(x, 0, false, 0, false, periods[i], 0);
        }
    }

    /** "by 100 STEPS, cut towards 0", below 0 too: 5 times (100 less air) by 100. */
    private static void lossIsCutTowardsZero() {
        int[] airs = {81, 80, 61, 100, 119, 120, 139, 140};
        int[] losses = {0, 1, 1, 0, 0, -1, -1, -2};
        for (int i = 0; i < airs.length; i++) {
            LastCloud x = Skies.under(TWO + "speed 60 sink 100;leg 0 1 miles 1 air " + airs[i] + " wind 0;");
            leg(x, 0, true, 0, false, 1, losses[i]);
        }
    }

    /** "by 100 STEPS, cut, 0 at least; no LIFT: 0": 5 times (100 less turn) by 100. */
    private static void aLiftWinsZeroAtLeast() {
        int[] turns = {0, 60, 61, 80, 81, 100, 101, 121, 999};
        int[] steps = {5, 2, 1, 1, 0, 0, 0, 0, 0};
        for (int i = 0; i < turns.length; i++) {
            LastCloud x = Skies.under("place ground 0;place ground 0;lift 0 chance 0 up 100;turn " + turns[i] + ";");
            D.due("turn " + turns[i], x.climb(0, false), steps[i]);
            D.due("without water as with none", x.climb(0, true), steps[i]);
            D.due("no lift", x.climb(1, false), 0);
            D.due("no lift with water", x.climb(1, true), 0);
        }
        LastCloud x = Skies.under("water 50;turn 50;place ground 0;lift 0 chance 0 up 100;place ground 0;lift 1 chance 0 up 140;");
        D.due("half of 100 less 50", x.climb(0, true), 0);
        D.due("half of 140 less 50", x.climb(1, true), 1);
        x = Skies.under("water 20;turn 61;place ground 0;lift 0 chance 0 up 100;");
        D.due("80 less 61", x.climb(0, true), 0);
        x = Skies.under("water 50;place ground 0;lift 0 chance 0 up 2000;");
        D.due("half of 2,000", x.climb(0, true), 50);
        x = Skies.under("water 1;place ground 0;lift 0 chance 0 up 100;");
        D.due("99", x.climb(0, true), 4);
    }

    /** "Above the ceiling is at the ceiling": by a lift and by a leg that wins. */
    private static void aboveTheCeilingIsAtIt() {
        LastCloud x = Skies.under("ceiling 31;" + TWO + "speed 60 sink 100;leg 0 1 miles 1 air 140 wind 0;"
            + "lift 0 chance 100 up 100;start 0 at 29;");
        D.due("2 are won", x.loss(0, false, 0, false), -2);
        D.due("31 is the ceiling", x.reach(0, 29, 1, false), 31);
        D.due("32 is at it", x.reach(0, 30, 1, false), 31);
        D.due("from it", x.reach(0, 31, 1, false), 31);
        x.row(0, 1, 2);
        D.due("29 and 5 is at it: no climb more", x.judge(0, 0), 1);
    }

    /** "A LEG can be flown from a height, if that less half of what it loses .. is its hill or more": half of 10 is 5. */
    private static void aHillIsFlownOver() {
        LastCloud x = Skies.under(TWO + "speed 60 sink 100;leg 0 1 miles 5 air 0 wind 0 hill 12;");
        D.due("at the hill", x.reach(0, 17, 1, false), 7);
        D.due("below it", x.reach(0, 16, 1, false), -1);
        D.due("back at it", x.reach(1, 17, 0, false), 7);
        D.due("back below it", x.reach(1, 16, 0, false), -1);
        x = Skies.under(TWO + "speed 60 sink 100;leg 0 1 miles 5 air 0 wind 0 hill 35;");
        D.due("from the ceiling", x.reach(0, 40, 1, false), 30);
        x = Skies.under(TWO + "speed 60 sink 100;leg 0 1 miles 5 air 0 wind 0 hill 36;");
        D.due("not even from the ceiling", x.reach(0, 40, 1, false), -1);
    }

    /** "half of what it loses (cut towards 0)": of 5 it is 2, of -3 it is -1, of -1 it is 0. */
    private static void halfOfALossIsCut() {
        String hill = TWO + "speed 60 sink 100;leg 0 1 miles 1 hill 12;";
        LastCloud x = Skies.under(hill.replace(" hill", " air 0 wind 0 hill"));
        D.due("5 are lost", x.loss(0, false, 0, false), 5);
        D.due("14 less 2", x.reach(0, 14, 1, false), 9);
        D.due("13 less 2", x.reach(0, 13, 1, false), -1);
        x = Skies.under("ceiling 31;" + hill.replace(" hill", " air 160 wind 0 hill"));
        D.due("3 are won", x.loss(0, false, 0, false), -3);
        D.due("11 and 1, and to and fro", x.reach(0, 11, 1, false), 31);
        D.due("10 and 1", x.reach(0, 10, 1, false), -1);
        x = Skies.under(hill.replace(" hill", " air 120 wind 0 hill"));
        D.due("1 is won", x.loss(0, false, 0, false), -1);
        D.due("11 and 0", x.reach(0, 11, 1, false), -1);
    }

    /** "(beside what else is told)": over the hill, and not below the ground behind it. */
    private static void besideTheHill() {
        LastCloud x = Skies.under("place ground 0;place ground 9;speed 60 sink 100;leg 0 1 miles 5 air 0 wind 0 hill 1;");
        D.due("over both", x.reach(0, 19, 1, false), 9);
        D.due("over the hill alone", x.reach(0, 18, 1, false), -1);
        x = Skies.under("place ground 0;place ground 9;speed 60 sink 100;leg 0 1 miles 5 air 0 wind 0 hill 15;");
        D.due("over the ground alone", x.reach(0, 19, 1, false), -1);
    }

    /** "as told (0 at first without a LIFT)": a glider may climb there all the same. */
    private static void zeroAtFirstWithoutALift() {
        LastCloud x = Skies.under("place ground 0;place ground 0;lift 1 chance 100 up 0;");
        D.due("without a lift", x.chance(0), 0);
        D.due("as told", x.chance(1), 100);
        x.sight(0, 0);
        D.due("behind a glider", x.chance(0), 100);
        x.unsee(1);
        D.due("at first", x.chance(0), 0);
    }

    /** "100 by a glider that climbs, 0 by one that does not", from any chance. */
    private static void byGliders() {
        for (int chance = 0; chance <= 100; chance += 25) {
            LastCloud x = Skies.under("place ground 0;lift 0 chance " + chance + " up 0;");
            x.sight(0, 0);
            D.due("climbs", x.chance(0), 100);
            x.unsee(1);
            x.sight(0, 1);
            D.due("does not", x.chance(0), 0);
        }
    }

    /** "for each SIGHT of it in their order": the last tells, and those of other PLACES tell nothing. */
    private static void inTheirOrder() {
        LastCloud x = Skies.under(TWO + "lift 0 chance 50 up 0 sign 75 25;lift 1 chance 20 up 0;");
        x.sight(0, 2);
        D.due("50 of 75 by 50", x.chance(0), 75);
        x.sight(1, 1);
        D.due("of another place", x.chance(0), 75);
        x.sight(0, 0);
        x.sight(0, 1);
        D.due("the last", x.chance(0), 0);
        x.sight(0, 2);
        D.due("0 times 75", x.chance(0), 0);
        x.unsee(2);
        D.due("the glider", x.chance(0), 100);
        x.sight(0, 3);
        D.due("100 times 25 by that", x.chance(0), 100);
    }

    /** "C as it is, if that is by 0." */
    private static void byNothingItStays() {
        LastCloud x = Skies.under(TWO + "place ground 0;place ground 0;lift 0 chance 100 up 0 sign 0 60;"
            + "lift 1 chance 0 up 0 sign 60 100;lift 2 chance 37 up 0 sign 0 0;lift 3 chance 37 up 0 sign 100 100;");
        for (int i = 0; i < 4; i++) {
            int before = x.chance(i);
            x.sight(i, i % 2 == 0 ? 2 : 3);
            D.due("as it is " + i, x.chance(i), before);
        }
        D.due("100", x.chance(0), 100);
        D.due("0", x.chance(1), 0);
        D.due("37 by a sign that is never seen", x.chance(2), 37);
        D.due("37 by one that is always seen", x.chance(3), 37);
    }

    /** "(chances of the SIGN ..: 0, 0 without)": seen it is by 0, not seen it is C times 100 by 100 times 100. */
    private static void aSignThatIsNotTold() {
        LastCloud x = Skies.under(TWO + "lift 0 chance 37 up 0;");
        x.sight(0, 2);
        D.due("seen", x.chance(0), 37);
        x.sight(0, 3);
        D.due("not seen", x.chance(0), 37);
        D.due("no lift, seen", x.sight(1, 2), 3);
        D.due("stays", x.chance(1), 0);
        D.due("no lift, not seen", x.sight(1, 3), 4);
        D.due("stays", x.chance(1), 0);
    }

    /** "(A LIFT of chance 0 has one, if it is told.)" */
    private static void aLiftOfChanceZero() {
        LastCloud x = Skies.under(TWO + "lift 0 chance 0 up 100 sign 50 50;");
        D.due("it is a lift", x.count(2), 1);
        D.due("it wins", x.climb(0, false), 5);
        D.due("its chance", x.chance(0), 0);
        D.due("its sign tells 0", x.sign(0, true), 0);
    }

    /** "in the hundred, cut": 1 of 1 by (1 and 99) is 1; 1 of 1 by (1 and 198) is 0.5; 50 of 2 by (100 and 50) is 66.6. */
    private static void inTheHundredCut() {
        LastCloud x = Skies.under(TWO + "place ground 0;lift 0 chance 1 up 0 sign 1 1;lift 1 chance 1 up 0 sign 1 2;"
            + "lift 2 chance 50 up 0 sign 2 1;");
        int[] chances = {1, 0, 66};
        int[] signs = {100, 50, 6666};
        for (int i = 0; i < 3; i++) {
            D.due("sign " + i, x.sign(i, true), signs[i]);
            x.sight(i, 2);
            D.due("chance " + i, x.chance(i), chances[i]);
        }
    }

    // ---- promises 6 to 12 ----

    /** "-2: there are none such", and NOTHING of loss(). */
    private static void noSuchLegOrSpeed() {
        LastCloud x = Skies.under(HOP);
        leg(x, 0, false, 0, false, 2, 10);
        for (int none : new int[] {1, -1, 10, MAX, MIN}) {
            leg(x, none, false, 0, false, -2, NOTHING);
            leg(x, 0, true, none, true, -2, NOTHING);
            leg(x, none, true, none, false, -2, NOTHING);
        }
        leg(Skies.under("speed 20 sink 1;"), 0, false, 0, false, -2, NOTHING);
        leg(Skies.under(TWO + "leg 0 1 miles 1 air 0 wind 0;"), 0, false, 0, false, -2, NOTHING);
        leg(new LastCloud(), 0, false, 0, false, -2, NOTHING);
    }

    /** "NONE: it can't be flown so." and "NOTHING ..: it can't be flown so": so by this SPEED, this way, with water. */
    private static void legsThatCannotBeFlown() {
        LastCloud x = Skies.under(TWO + "water 50;speed 20 sink 1;speed 40 sink 1;leg 0 1 miles 1 air 0 wind 20;");
        leg(x, 0, true, 0, false, -1, NOTHING);
        leg(x, 0, true, 0, true, 2, 0);
        leg(x, 0, false, 0, false, 1, 0);
        leg(x, 0, true, 1, false, 1, 0);
    }

    /** "with water (wet) or without (II)": of water 0 nothing is faster or less. */
    private static void waterThatIsNotHad() {
        LastCloud x = Skies.under(HOP + "water 0;lift 0 chance 0 up 100;");
        leg(x, 0, false, 0, true, 2, 10);
        D.due("climb", x.climb(0, true), 5);
    }

    /** climb: "-2: there is no such PLACE." */
    private static void noSuchClimb() {
        LastCloud x = Skies.under(HOP);
        for (int none : new int[] {2, -1, 8, MAX, MIN}) {
            D.due("climb(" + none + ")", x.climb(none, false), -2);
            D.due("climb(" + none + ") with water", x.climb(none, true), -2);
        }
        D.due("no places", new LastCloud().climb(0, false), -2);
    }

    /** chance: "-2 likewise." */
    private static void noSuchChance() {
        LastCloud x = Skies.under(HOP);
        for (int none : new int[] {2, -1, 8, MAX, MIN}) {
            D.due("chance(" + none + ")", x.chance(none), -2);
        }
        D.due("no places", new LastCloud().chance(0), -2);
    }

    /** sight: "-2: there are none such". */
    private static void noSuchSight() {
        LastCloud x = Skies.under(HOP);
        for (int none : new int[] {2, -1, 8, MAX, MIN}) {
            D.due("no place " + none, x.sight(none, 0), -2);
        }
        for (int none : new int[] {4, -1, MAX, MIN}) {
            D.due("no sort " + none, x.sight(0, none), -2);
        }
        D.due("none is told", x.count(5), 0);
        for (int sort = 0; sort < 4; sort++) {
            D.due("sort " + sort, x.sight(1, sort), sort + 1);
        }
        D.due("no places", new LastCloud().sight(0, 0), -2);
    }

    /** sight: "-3: 20 are there". */
    private static void twentySights() {
        LastCloud x = Skies.under(HOP);
        for (int i = 1; i <= 20; i++) {
            D.due("sight " + i, x.sight(0, 1), i);
        }
        D.due("the 21st", x.sight(0, 0), -3);
        D.due("20 are there", x.count(5), 20);
        D.due("it is not told", x.chance(0), 0);
        D.due("none such, full or not", x.sight(2, 0), -2);
        D.due("none such, full or not", x.sight(0, 4), -2);
        x.unsee(1);
        D.due("the 20th again", x.sight(0, 0), 20);
        D.due("it is told", x.chance(0), 100);
    }

    /** unsee: "The last n SIGHTS (0 or more) are gone"; "-2: there are not so many, n is below 0." */
    private static void unseeing() {
        LastCloud x = Skies.under(HOP);
        D.due("none of none", x.unsee(0), 0);
        D.due("1 of none", x.unsee(1), -2);
        x.sight(0, 1);
        x.sight(0, 0);
        for (int n : new int[] {3, 20, MAX, -1, MIN}) {
            D.due("unsee(" + n + ")", x.unsee(n), -2);
            D.due("they are there", x.count(5), 2);
        }
        D.due("none of two", x.unsee(0), 2);
        D.due("the glider still climbs", x.chance(0), 100);
        D.due("all", x.unsee(2), 0);
        D.due("as at first", x.chance(0), 0);
    }

    /** sign: "NONE: it can't be so", and the sign alone tells: SIGHTS do not. */
    private static void signsThatCannotBe() {
        LastCloud x = Skies.under(TWO + "place ground 0;lift 0 chance 100 up 0 sign 0 60;lift 1 chance 0 up 0 sign 60 100;");
        D.due("never seen, if it is there", x.sign(0, true), -1);
        D.due("not seen surely", x.sign(0, false), 10000);
        D.due("seen, though it is not there", x.sign(1, true), 0);
        D.due("always seen, if it is not there", x.sign(1, false), -1);
        D.due("no lift has no sign", x.sign(2, true), -1);
        D.due("not seen", x.sign(2, false), 0);
        x.sight(0, 1);
        D.due("alone", x.sign(0, false), 10000);
        D.due("alone", x.sign(0, true), -1);
        // as many by the former as by the latter are half, not nothing
        x = Skies.under("place ground 0;lift 0 chance 50 up 0 sign 30 30;");
        D.due("1,500 by 3,000", x.sign(0, true), 5000);
        D.due("3,500 by 7,000", x.sign(0, false), 5000);
    }

    /** sign: "-2: there is no such PLACE." */
    private static void noSuchSign() {
        LastCloud x = Skies.under(HOP);
        for (int none : new int[] {2, -1, 8, MAX, MIN}) {
            D.due("sign(" + none + ", true)", x.sign(none, true), -2);
            D.due("sign(" + none + ", false)", x.sign(none, false), -2);
        }
    }

    // ---- promises 13 to 15 and 29 ----

    /** reach: "-2: there are none such": no such PLACES, no such height at the first of them. */
    private static void noSuchReach() {
        LastCloud x = Skies.under(HOP);
        for (int none : new int[] {2, -1, 8, MAX, MIN}) {
            D.due("from " + none, x.reach(none, 20, 1, false), -2);
            D.due("to " + none, x.reach(0, 20, none, false), -2);
        }
        for (int none : new int[] {2, 0, -1, 41, 61, MAX, MIN}) {
            D.due("at " + none, x.reach(0, none, 1, false), -2);
            D.due("at " + none + ", with water", x.reach(0, none, 1, true), -2);
            D.due("at " + none + ", where one is", x.reach(0, none, 0, false), -2);
        }
        D.due("below its ground", x.reach(1, 4, 0, false), -2);
        D.due("the other's ground is no bound", x.reach(0, 4, 1, false), -1);
        D.due("above another ceiling", Skies.under(HOP + "ceiling 31;").reach(0, 32, 1, false), -2);
        D.due("below another one", Skies.under(HOP + "ceiling 60;").reach(0, 60, 1, false), 50);
        D.due("no places", new LastCloud().reach(0, 0, 0, false), -2);
    }

    /** III: "not below the ground of a PLACE": on it one is, at both ends. */
    private static void reachFromTheGround() {
        LastCloud x = Skies.under(HOP);
        D.due("where one is, on the ground", x.reach(0, 3, 0, false), 3);
        D.due("where one is, on the ground", x.reach(1, 5, 1, true), 5);
        D.due("to the ground", x.reach(0, 15, 1, false), 5);
        D.due("below it", x.reach(0, 14, 1, false), -1);
        D.due("back to the ground", x.reach(1, 13, 0, false), 3);
        D.due("back below it", x.reach(1, 12, 0, false), -1);
        D.due("from the ceiling", x.reach(0, 40, 1, false), 30);
        LastCloud level = Skies.under("place ground 0;place ground 0;speed 60 sink 100;leg 0 1 miles 1 air 100 wind 0;");
        D.due("from 0 to 0", level.reach(0, 0, 1, false), 0);
    }

    /** reach: "NONE: one can't": no leg, no speed, too low. */
    private static void reachThatCannotBe() {
        D.due("no leg", Skies.under(TWO + "speed 60 sink 1;").reach(0, 40, 1, false), -1);
        D.due("no speed", Skies.under(TWO + "leg 0 1 miles 1 air 0 wind 0;").reach(0, 40, 1, false), -1);
        D.due("against the wind", Skies.under(TWO + "speed 20 sink 1;leg 0 1 miles 1 air 0 wind 20;").reach(1, 40, 0, false), -1);
        D.due("with the wind", Skies.under(TWO + "speed 20 sink 1;leg 0 1 miles 1 air 0 wind 20;").reach(0, 40, 1, false), 40);
        D.due("40 are lost", Skies.under(TWO + "speed 60 sink 400;leg 0 1 miles 5 air 0 wind 0;").reach(0, 40, 1, false), 0);
        D.due("41 are lost", Skies.under(TWO + "speed 60 sink 410;leg 0 1 miles 5 air 0 wind 0;").reach(0, 40, 1, false), -1);
    }

    /** "with water, if water is 0, as without, here and in the next two and tour()". */
    private static void reachWithoutWater() {
        for (LastCloud x : new LastCloud[] {Skies.under(HOP), Skies.under(HOP + "water 0;")}) {
            D.due("reach", x.reach(0, 15, 1, true), 5);
            D.due("reach", x.reach(0, 14, 1, true), -1);
            D.due("fields", x.fields(0, 15, true), 2);
            D.due("fields", x.fields(0, 14, true), 0);
            D.due("edge", x.edge(0, true), 15);
            D.due("tour", x.tour(0, 15, true), 3);
            D.due("tour", x.tour(0, 14, true), 0);
        }
    }

    /** fields: "-2 likewise." */
    private static void noSuchFields() {
        LastCloud x = Skies.under(HOP);
        for (int none : new int[] {2, -1, 8, MAX, MIN}) {
            D.due("from " + none, x.fields(none, 20, false), -2);
        }
        for (int none : new int[] {2, 0, -1, 41, 61, MAX, MIN}) {
            D.due("at " + none, x.fields(0, none, false), -2);
            D.due("at " + none + ", with water", x.fields(0, none, true), -2);
        }
        D.due("below home's ground", x.fields(1, 4, false), -2);
        D.due("no places", new LastCloud().fields(0, 0, false), -2);
    }

    /** fields: "The PLACES at which one may land that are reached so": none, the one where one is, all. */
    private static void fieldsFromTheGround() {
        LastCloud x = Skies.under(HOP);
        D.due("none, on the ground", x.fields(0, 3, false), 0);
        D.due("none", x.fields(0, 14, false), 0);
        D.due("home", x.fields(0, 15, false), 2);
        D.due("home, on its ground", x.fields(1, 5, false), 2);
        StringBuilder eight = new StringBuilder("speed 60 sink 100;");
        for (int i = 0; i < 8; i++) {
            eight.append(i == 3 ? "place ground 0 home;" : "place ground 0 field 0;");
            eight.append(i > 0 ? "leg " + (i - 1) + " " + i + " miles 1 air 0 wind 0;" : "");
        }
        D.due("all eight: 7 legs of 5", Skies.under(eight.toString()).fields(0, 35, false), 255);
        D.due("all but the last", Skies.under(eight.toString()).fields(0, 34, false), 127);
    }

    /** edge: "(its ground, where one may land)". */
    private static void anEdgeOnTheGround() {
        LastCloud x = Skies.under("place ground 30 field 0;place ground 0 home;place ground 9 field 7;");
        int[] edges = {30, 0, 9};
        for (int i = 0; i < 3; i++) {
            D.due("edge " + i, x.edge(i, false), edges[i]);
            D.due("edge " + i + " with water", x.edge(i, true), edges[i]);
        }
        // nothing is lost: one may go from the very ground
        x = Skies.under("place ground 7;place ground 7 home;speed 60 sink 100;leg 0 1 miles 1 air 100 wind 0;");
        D.due("its ground is enough", x.edge(0, false), 7);
        x = Skies.under("place ground 7;place ground 2 home;speed 60 sink 100;leg 0 1 miles 1 air 100 wind 0;");
        D.due("not below its ground", x.edge(0, false), 7);
    }

    /** edge: "The least height at a PLACE": the ceiling is the greatest that can be one. */
    private static void anEdgeAtTheCeiling() {
        String far = "place ground 0;place ground 30 home;leg 0 1 miles 5 air 0 wind 0;speed 60 sink ";
        D.due("10 are lost", Skies.under(far + "100;").edge(0, false), 40);
        D.due("11 are lost", Skies.under(far + "110;").edge(0, false), -1);
        D.due("under a higher ceiling", Skies.under(far + "110;ceiling 41;").edge(0, false), 41);
        D.due("under a lower one", Skies.under(far + "100;ceiling 39;").edge(0, false), -1);
    }

    /** edge: over as many LEGS as there are PLACES beyond, in whatever order these are told: 5 are lost by each. */
    private static void anEdgeFarAway() {
        StringBuilder up = new StringBuilder("speed 60 sink 100;place ground 0;");
        StringBuilder down = new StringBuilder("speed 60 sink 100;place ground 0 home;");
        for (int i = 1; i < 8; i++) {
            String leg = "leg " + (i - 1) + " " + i + " miles 1 air 0 wind 0;";
            up.append(i == 7 ? "place ground 0 home;" : "place ground 0;").append(leg);
            down.append("place ground 0;").append(leg);
        }
        LastCloud x = Skies.under(up.toString());
        LastCloud y = Skies.under(down.toString());
        for (int i = 0; i < 8; i++) {
            D.due("from " + i + " to 7", x.edge(i, false), 35 - 5 * i);
            D.due("from " + i + " to 0", y.edge(i, false), 5 * i);
            D.due("reach 7 from " + i, x.reach(i, 40, 7, false), 5 + 5 * i);
            D.due("reach 0 from " + i, y.reach(i, 40, 0, false), 40 - 5 * i);
        }
        D.due("below it", x.fields(0, 34, false), 0);
        D.due("at it", x.fields(0, 35, false), 128);
        D.due("all come home", x.tour(0, 35, false), 255);
    }

    /** Ten LEGS by six SPEEDS, both ways, with water and without: the last of all is as good as the first. */
    private static void allLegsByAllSpeeds() {
        StringBuilder text = new StringBuilder("water 50;");
        for (int i = 0; i < 8; i++) {
            text.append(i == 6 ? "place ground 0 home;" : "place ground 0;");
        }
        for (int i = 0; i < 9; i++) {
            text.append("leg 7 5 miles 1 air 0 wind 0;");
        }
        text.append("leg 7 6 miles 1 air 0 wind 0;speed 20 sink 600;speed 20 sink 500;speed 20 sink 400;speed 20 sink 300;"
            + "speed 20 sink 200;speed 20 sink 100;");
        LastCloud x = Skies.under(text.toString());
        D.due("5 are lost", x.reach(7, 40, 6, false), 35);
        D.due("5 are lost with water", x.reach(7, 40, 6, true), 35);
        D.due("and 5 back", x.reach(6, 40, 7, true), 35);
        D.due("its edge", x.edge(7, false), 5);
        D.due("its edge with water", x.edge(7, true), 5);
        D.due("over 7", x.edge(5, true), 10);
        x = Skies.under(text + "worth home 1000 period 1 out 0;");
        D.due("by the last speed", x.deed(0, 7, 5, 0, false, false), 195);
        D.due("by the first", x.deed(0, 7, 30, 0, false, false), 190);
        // without it one is as soon at home: letting go comes first
        D.due("with water", x.deed(0, 7, 5, 0, false, true), 1);
    }

    /** edge: "NONE: none." */
    private static void noEdge() {
        D.due("nowhere to land", Skies.under("place ground 0;").edge(0, false), -1);
        D.due("no leg", Skies.under("place ground 0;place ground 0 home;speed 60 sink 1;").edge(0, false), -1);
        D.due("no speed", Skies.under("place ground 0;place ground 0 home;leg 0 1 miles 1 air 0 wind 0;").edge(0, false), -1);
        D.due("water alone helps", Skies.under("water 50;place ground 0 home;place ground 0;speed 20 sink 1;"
            + "leg 0 1 miles 1 air 0 wind 20;").edge(1, false), -1);
        D.due("with it", Skies.under("water 50;place ground 0 home;place ground 0;speed 20 sink 1;"
            + "leg 0 1 miles 1 air 0 wind 20;").edge(1, true), 0);
    }

    /** edge: "-2: there is no such PLACE." */
    private static void noSuchEdge() {
        LastCloud x = Skies.under(HOP);
        for (int none : new int[] {2, -1, 8, MAX, MIN}) {
            D.due("edge(" + none + ")", x.edge(none, false), -2);
            D.due("edge(" + none + ") with water", x.edge(none, true), -2);
        }
        D.due("no places", new LastCloud().edge(0, false), -2);
    }

    /** tour: "-2: there are none such." */
    private static void noSuchTour() {
        LastCloud x = Skies.under(HOP);
        for (int none : new int[] {2, -1, 8, MAX, MIN}) {
            D.due("from " + none, x.tour(none, 20, false), -2);
        }
        for (int none : new int[] {2, 0, -1, 41, 61, MAX, MIN}) {
            D.due("at " + none, x.tour(0, none, false), -2);
            D.due("at " + none + ", with water", x.tour(0, none, true), -2);
        }
        D.due("below home's ground", x.tour(1, 4, false), -2);
        D.due("no places", new LastCloud().tour(0, 0, false), -2);
    }

    /** tour: "PLACES to which one comes .., and from there (as high as one comes) to one to land at". */
    private static void toursFromTheGround() {
        LastCloud x = Skies.under(HOP + "place ground 0;leg 0 2 miles 5 air 0 wind 0;");
        D.due("on the ground none", x.tour(0, 3, false), 0);
        D.due("at the edge: 0 and 1, not 2", x.tour(0, 15, false), 3);
        D.due("below it none", x.tour(0, 14, false), 0);
        D.due("on home's ground", x.tour(1, 5, false), 2);
        // 2 is left at 25 at least: 10 to 0, 10 to 1
        D.due("from 2 at its edge", x.tour(2, 25, false), 7);
        D.due("below it", x.tour(2, 24, false), 0);
        D.due("to 2 and back again", x.tour(0, 35, false), 7);
        D.due("to 2, not back again", x.tour(0, 34, false), 3);
    }

    // ---- IV, promises 16 to 18 ----

    /** fast, average: "(1 .. 2,000)"; "-2: there is none such". */
    private static void fastBounds() {
        LastCloud x = Skies.under("speed 60 sink 100;");
        for (int none : new int[] {0, -1, 2001, MAX, MIN}) {
            D.due("fast(" + none + ")", x.fast(none), -2);
            D.due("average(" + none + ")", x.average(none), -2);
            D.due("fast(" + none + ") without speeds", new LastCloud().fast(none), -2);
            D.due("average(" + none + ") without speeds", new LastCloud().average(none), -2);
        }
        D.due("fast(1)", x.fast(1), 0);
        D.due("fast(2000)", x.fast(2000), 0);
        D.due("average(1): 600 by 101", x.average(1), 5);
        D.due("average(2000): 1,200,000 by 2,100", x.average(2000), 571);
    }

    /** "NONE: no SPEEDS." */
    private static void fastOfNone() {
        for (LastCloud x : new LastCloud[] {new LastCloud(), Skies.under(TWO)}) {
            D.due("fast(1)", x.fast(1), -1);
            D.due("fast(2000)", x.fast(2000), -1);
            D.due("average(1)", x.average(1), -1);
            D.due("average(2000)", x.average(2000), -1);
        }
    }

    /** FAST: "of like ones the first (as fractions)": 60 by 600 and 100 by 1,000 are alike; 1 foot more, or less, tells. */
    private static void fastOfLikeOnes() {
        LastCloud x = Skies.under("speed 60 sink 100;speed 100 sink 500;");
        D.due("alike", x.fast(500), 0);
        D.due("more", x.fast(501), 1);
        D.due("less", x.fast(499), 0);
        x = Skies.under("speed 100 sink 500;speed 60 sink 100;");
        D.due("alike", x.fast(500), 0);
        D.due("more", x.fast(501), 0);
        D.due("less", x.fast(499), 1);
        // cut both are 0 by 1: 20 by 1,000 and 21 by 1,000
        x = Skies.under("speed 20 sink 999;speed 21 sink 999;");
        D.due("unlike as fractions", x.fast(1), 1);
        D.due("the same twice", Skies.under("speed 20 sink 5;speed 20 sink 5;").fast(7), 0);
    }

    /** AVERAGE: "10 times that, cut". */
    private static void averageIsCut() {
        LastCloud x = Skies.under("speed 20 sink 999;");
        D.due("200 by 1,000", x.average(1), 0);
        D.due("1,000 by 1,004", x.average(5), 0);
        D.due("1,200 by 1,005", x.average(6), 1);
        x = Skies.under("speed 150 sink 1;");
        D.due("1,500 by 2", x.average(1), 750);
        D.due("3,000,000 by 2,001", x.average(2000), 1499);
    }

    /** farthest: "likewise" of like ones the first; "NONE: no SPEEDS." */
    private static void farthestOfNoneAndLikeOnes() {
        D.due("no speeds", new LastCloud().farthest(), -1);
        D.due("no speeds", Skies.under(TWO).farthest(), -1);
        D.due("alike", Skies.under("speed 40 sink 80;speed 50 sink 100;speed 60 sink 120;").farthest(), 0);
        D.due("as fractions", Skies.under("speed 101 sink 100;speed 103 sink 100;").farthest(), 1);
        D.due("the last of six", Skies.under("speed 20 sink 5;speed 20 sink 5;speed 20 sink 5;speed 20 sink 5;"
            + "speed 20 sink 5;speed 20 sink 4;").farthest(), 5);
    }

    // ---- promise 30 ----

    /** "0 without PLACES", 1 without LEGS. */
    private static void noStreet() {
        D.due("no places", new LastCloud().street(), 0);
        D.due("no places", Skies.under("speed 20 sink 1;").street(), 0);
        D.due("one place", Skies.under("place ground 0;").street(), 1);
        D.due("no legs", Skies.under(TWO).street(), 1);
    }

    /** "(some SPEED loses 0 STEPS or less, either way as flown)": 0.95 is 0, 1 is too much. */
    private static void streetsWithoutLoss() {
        String leg = TWO + "speed 60 sink 100;leg 0 1 miles 1 wind 0;";
        D.due("0.95", Skies.under(leg.replace(" wind", " air 81 wind")).street(), 2);
        D.due("1", Skies.under(leg.replace(" wind", " air 80 wind")).street(), 1);
        D.due("won", Skies.under(leg.replace(" wind", " air 999 wind")).street(), 2);
        D.due("by the last speed", Skies.under(TWO + "speed 60 sink 100;speed 60 sink 99;speed 60 sink 1;"
            + "leg 0 1 miles 1 air 1 wind 0;").street(), 2);
        // with the wind 1 period and 0.75, against it 2 and 1.5: one way alone
        String oneWay = TWO + "place ground 0;speed 60 sink 100;leg 0 1 miles 4 air 85 wind 20;leg 1 2 miles 4 air 85 wind 20";
        D.due("with the wind", Skies.under(oneWay + ";").street(), 3);
        D.due("against each other", Skies.under(oneWay + " down;").street(), 2);
    }

    /** "The most PLACES, each once": eight at most, a round counts its PLACES once. */
    private static void streetsEachOnce() {
        StringBuilder eight = new StringBuilder("speed 60 sink 100;place ground 0;");
        for (int i = 1; i < 8; i++) {
            eight.append("place ground 0;leg ").append(i).append(' ').append(i - 1).append(" miles 1 air 100 wind 0;");
        }
        D.due("eight", Skies.under(eight.toString()).street(), 8);
        D.due("a round of eight", Skies.under(eight + "leg 0 7 miles 1 air 100 wind 0;").street(), 8);
        D.due("to and fro", Skies.under(TWO + "speed 60 sink 100;leg 0 1 miles 1 air 100 wind 0;leg 1 0 miles 1 air 100 wind 0;")
            .street(), 2);
    }

    /** A LEG that "can't be flown" loses NOTHING, which is not "0 STEPS or less". */
    private static void streetsThatCannotBeFlown() {
        LastCloud x = Skies.under(TWO + "place ground 0;speed 20 sink 100;leg 0 1 miles 1 air 999 wind 20;"
            + "leg 2 1 miles 1 air 999 wind 20;");
        D.due("back it can't be flown", x.loss(0, true, 0, false), NOTHING);
        D.due("one leg alone", x.street(), 2);
    }

    /** "without water". */
    private static void streetsWithoutWater() {
        LastCloud x = Skies.under("water 50;" + TWO + "speed 60 sink 100;leg 0 1 miles 5 air 85 wind 0;");
        D.due("with water 0.75", x.loss(0, false, 0, true), 0);
        D.due("without 1.5", x.loss(0, false, 0, false), 1);
        D.due("no street", x.street(), 1);
    }
}
