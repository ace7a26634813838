/** The boundary cases that Term I and promises 1 to 5 name: a test for each sentence that names one. */
public final class EdgeTextTest {
    private static final Due D = new Due("EdgeTextTest");
    private static final int NOTHING = -2000000000;
    private static final String TWO = "place ground 0;place ground 0;";
    private static final String LEG = "leg 0 1 miles 1 air 0 wind 0;";
    private static final String HOME = "place ground 0 home;start 0 at 9;";

    public static void main(String[] args) {
        fewestAndMostLines();
        greatestNumbersOfEachKind();
        aPlaceIsToldAhead();
        aLegHasTwoUnlikePlaces();
        aLiftIsToldOnceOfAPlace();
        aPointIsToldOnce();
        boundsOfPlaces();
        boundsOfLegs();
        boundsOfLifts();
        boundsOfTheOthers();
        leastNumbersCount();
        greatestNumbersCount();
        noHillIsZero();
        downIsLessThanZero();
        windDownIsAgainst();
        onceEach();
        withoutThem();
        threePointsAtMost();
        theStartIsHeld();
        blanksAreTwo();
        theLongestToken();
        theFirstFaultByItsPlace();
        theLeastFaultOfAPlace();
        theEndsPlace();
        noTokens();
        tokensThatCannotStand();
        oneTooMany();
        aNewObject();
        aFullTape();
        aTapeOfTokens();
        fourBytesOfEachNumber();
        anEndWithinTheTape();
        anEndBeyondTheTape();
        anEmptyTape();
        noSightsBehindASky();
        theLatestFlightStays();
        aFaultLeavesAllElse();
        noFaultAheadOfAny();
        noFaultBehindAGoodOne();
        noOtherFault();
        D.finish();
    }

    private static String times(int n, String line) {
        StringBuilder lines = new StringBuilder();
        for (int i = 0; i < n; i++) {
            lines.append(line);
        }
        return lines.toString();
    }

    // ---- Term I ----

    /** "{LINE ;}, 60 at most": none is a SKY too; by the bounds of the kinds there can be 41. */
    private static void fewestAndMostLines() {
        LastCloud x = new LastCloud();
        D.due("no bytes", Skies.tell(x, ""), 0);
        D.due("blanks alone", Skies.tell(x, " \n \n"), 0);
        String most = times(8, "place ground 0;") + times(10, LEG) + times(6, "speed 20 sink 1;");
        for (int i = 0; i < 8; i++) {
            most += "lift " + i + " chance 0 up 0;";
        }
        most += "turn 0;water 0;ceiling 40;last 40;worth home 0 period 0 out 0;start 0 at 0;point 0;point 1;point 7;";
        D.due("41 lines", Skies.tell(x, most), 41);
        D.due("are counted", x.count(4), 41);
    }

    /** "PLACES 0 .. 7, LEGS 0 .. 9, SPEEDS 0 .. 5 are numbered each as they stand". */
    private static void greatestNumbersOfEachKind() {
        LastCloud x = Skies.under(times(7, "place ground 0;") + "speed 20 sink 1;" + times(9, LEG) + "place ground 9 home;"
            + times(4, "speed 20 sink 1;") + "leg 7 6 miles 50 air 0 wind 0;speed 60 sink 100;");
        D.due("place 7", x.edge(7, false), 9);
        D.due("no place 8", x.edge(8, false), -2);
        D.due("leg 9 by speed 5", x.periods(9, false, 5, false), 11);
        D.due("leg 8 by speed 5", x.periods(8, false, 5, false), 1);
        D.due("leg 9 by speed 4", x.periods(9, false, 4, false), 31);
        D.due("no leg 10", x.periods(10, false, 5, false), -2);
        D.due("no speed 6", x.periods(9, false, 6, false), -2);
    }

    /** "P: a PLACE told ahead": not one that stands behind, nor one that is never told. */
    private static void aPlaceIsToldAhead() {
        Skies.fits(D, TWO + LEG);
        Skies.fault(D, "place ground 0;" + LEG + "place ground 0;", 2, 21);
        Skies.fault(D, LEG, 2, 4);
        Skies.fault(D, TWO + "lift 2 chance 0 up 0;", 2, 35);
        Skies.fault(D, "lift 0 chance 0 up 0;" + TWO, 2, 5);
        Skies.fault(D, TWO + "start 2 at 0;", 2, 36);
        Skies.fault(D, TWO + "point 2;", 2, 36);
        Skies.fault(D, "point 0;", 2, 6);
        Skies.fault(D, TWO + "point 4294967296;", 2, 36);
    }

    /** "two unlike ones of a leg": of two legs they may be the same. */
    private static void aLegHasTwoUnlikePlaces() {
        Skies.fault(D, TWO + "leg 1 1 miles 1 air 0 wind 0;", 2, 36);
        Skies.fault(D, TWO + "leg 0 00 miles 1 air 0 wind 0;", 2, 36);
        Skies.fits(D, TWO + LEG + LEG + "leg 1 0 miles 1 air 0 wind 0;");
    }

    /** "one with a lift told already ..: not". */
    private static void aLiftIsToldOnceOfAPlace() {
        Skies.fits(D, TWO + "lift 1 chance 0 up 0;lift 0 chance 0 up 0;");
        Skies.fault(D, TWO + "lift 1 chance 0 up 0;lift 1 chance 9 up 9;", 2, 56);
    }

    /** "a point told already: not". */
    private static void aPointIsToldOnce() {
        Skies.fits(D, TWO + "point 1;point 0;");
        Skies.fault(D, TWO + "point 1;point 1;", 2, 44);
    }

    /** "ground 0 .. 30, field's N 0 .. 999". */
    private static void boundsOfPlaces() {
        Skies.bounds(D, "place ground ", 0, 30, ";");
        Skies.bounds(D, "place ground ", 0, 30, " home;");
        Skies.bounds(D, "place ground 30 field ", 0, 999, ";");
    }

    /** "miles 1 .. 60, hill 0 .. 40 .., air 0 .. 999 .., wind 0 .. 60". */
    private static void boundsOfLegs() {
        Skies.bounds(D, TWO + "leg 0 1 miles ", 1, 60, " air 0 wind 0;");
        Skies.bounds(D, TWO + "leg 0 1 miles 1 air ", 0, 999, " wind 0;");
        Skies.bounds(D, TWO + "leg 0 1 miles 1 air ", 0, 999, " down wind 0;");
        Skies.bounds(D, TWO + "leg 0 1 miles 1 air 0 wind ", 0, 60, " hill 0;");
        Skies.bounds(D, TWO + "leg 0 1 miles 1 air 0 wind ", 0, 60, " down;");
        Skies.bounds(D, TWO + "leg 0 1 miles 1 air 0 wind 0 down hill ", 0, 40, ";");
    }

    /** "chance 0 .. 100, up 0 .. 2000, sign N N 0 .. 100". */
    private static void boundsOfLifts() {
        Skies.bounds(D, TWO + "lift 1 chance ", 0, 100, " up 0;");
        Skies.bounds(D, TWO + "lift 1 chance 0 up ", 0, 2000, ";");
        Skies.bounds(D, TWO + "lift 1 chance 0 up 0 sign ", 0, 100, " 0;");
        Skies.bounds(D, TWO + "lift 1 chance 0 up 0 sign 0 ", 0, 100, ";");
    }

    /** "speed 20 .. 150, sink 1 .. 999, turn 0 .. 999, water 0 .. 50, ceiling 31 .. 60, last 1 .. 47, home 0 .. 9999,
     * period 0 .. 99, out 0 .. 9999, at 0 .. 60". */
    private static void boundsOfTheOthers() {
        Skies.bounds(D, "speed ", 20, 150, " sink 1;");
        Skies.bounds(D, "speed 20 sink ", 1, 999, ";");
        Skies.bounds(D, "turn ", 0, 999, ";");
        Skies.bounds(D, "water ", 0, 50, ";");
        Skies.bounds(D, "ceiling ", 31, 60, ";");
        Skies.bounds(D, "last ", 1, 47, ";");
        Skies.bounds(D, "worth home ", 0, 9999, " period 0 out 0;");
        Skies.bounds(D, "worth home 0 period ", 0, 99, " out 0;");
        Skies.bounds(D, "worth home 0 period 0 out ", 0, 9999, ";");
        Skies.bounds(D, TWO + "start 0 at ", 0, 60, ";");
        Skies.bounds(D, TWO + "start 1 at ", 0, 60, " wet;");
    }

    /** The least of all these: a leg of 1 mile by 20 takes 12 by 20, cut, and 1; it loses 5 by 100, cut. */
    private static void leastNumbersCount() {
        LastCloud x = Skies.under("place ground 0 field 0;place ground 0 home;leg 0 1 miles 1 air 0 wind 0 hill 0;"
            + "lift 0 chance 0 up 0 sign 0 0;speed 20 sink 1;turn 0;water 0;ceiling 31;last 1;worth home 0 period 0 out 0;"
            + "start 0 at 0;");
        D.due("periods", x.periods(0, false, 0, false), 1);
        D.due("loss", x.loss(0, false, 0, false), 0);
        D.due("climb", x.climb(0, false), 0);
        D.due("last", x.count(8), 1);
        D.due("ceiling", x.count(9), 31);
        D.due("worth", x.start(0), 0);
        D.due("soon, at the last period", x.soon(), 1);
    }

    /** The greatest: 150 less 60 is 90: 720 by 90 and 1 is 9; 5 times 9 times 1998 by 100 is 899.1. */
    private static void greatestNumbersCount() {
        LastCloud x = Skies.under("place ground 30 field 999;place ground 0 home;"
            + "leg 0 1 miles 60 air 999 down wind 60 down hill 40;lift 0 chance 100 up 2000 sign 100 100;speed 150 sink 999;"
            + "water 50;ceiling 60;last 47;worth home 9999 period 99 out 9999;start 0 at 60 wet;");
        D.due("periods", x.periods(0, false, 0, false), 9);
        D.due("loss", x.loss(0, false, 0, false), 899);
        D.due("back by 210: 3 and 1", x.periods(0, true, 0, false), 4);
        D.due("with water by 165: 4 and 1", x.periods(0, false, 0, true), 5);
        D.due("climb", x.climb(0, false), 100);
        D.due("the sign is always seen", x.sign(0, true), 10000);
        D.due("or can't be", x.sign(0, false), -1);
        D.due("home at the last period: 9999 less 4653", x.worth(0, 1, 60, 47, false, true), 5346);
        D.due("the field: 999 less 4653", x.worth(0, 0, 60, 47, true, true), -3654);
        D.due("turn 999", Skies.under("turn 999;place ground 0;lift 0 chance 0 up 2000;").climb(0, false), 50);
        D.due("out 9999", Skies.under("worth home 0 period 99 out 9999;place ground 0;").worth(0, 0, 0, 40, false, false),
            -9999);
    }

    /** "hill 0 .. 40 (0 without)". */
    private static void noHillIsZero() {
        String level = TWO + "speed 60 sink 100;leg 0 1 miles 1 air 100 wind 0";
        D.due("without", Skies.under(level + ";").reach(0, 0, 1, false), 0);
        D.due("hill 0", Skies.under(level + " hill 0;").reach(0, 0, 1, false), 0);
        D.due("hill 1", Skies.under(level + " hill 1;").reach(0, 0, 1, false), -1);
    }

    /** "air 0 .. 999 (down: less than 0)": 1 period, 5 times (100 less air) by 100. */
    private static void downIsLessThanZero() {
        String air = TWO + "speed 60 sink 100;leg 0 1 miles 1 air ";
        D.due("up", Skies.under(air + "60 wind 0;").loss(0, false, 0, false), 2);
        D.due("down", Skies.under(air + "60 down wind 0;").loss(0, false, 0, false), 8);
        D.due("0 down", Skies.under(air + "0 down wind 0 down;").loss(0, false, 0, false), 5);
    }

    /** "wind 0 .. 60 (down: against the first to the second)": 720 by 80 and 1, by 40 and 1. */
    private static void windDownIsAgainst() {
        String wind = TWO + "speed 60 sink 100;leg 1 0 miles 60 air 0 wind 20";
        D.due("with it", Skies.under(wind + ";").periods(0, false, 0, false), 10);
        D.due("back", Skies.under(wind + ";").periods(0, true, 0, false), 19);
        D.due("against it", Skies.under(wind + " down;").periods(0, false, 0, false), 19);
        D.due("back with it", Skies.under(wind + " down;").periods(0, true, 0, false), 10);
    }

    /** "home (of one PLACE), turn, water, ceiling, last, worth, start once each". */
    private static void onceEach() {
        Skies.fault(D, "place ground 0 home;place ground 0 home;", 2, 35);
        Skies.fault(D, "turn 0;turn 0;", 2, 7);
        Skies.fault(D, "water 0;water 0;", 2, 8);
        Skies.fault(D, "ceiling 40;ceiling 40;", 2, 11);
        Skies.fault(D, "last 40;last 40;", 2, 8);
        Skies.fault(D, "worth home 1000 period 0 out 0;worth home 1000 period 0 out 0;", 2, 31);
        Skies.fault(D, TWO + "start 0 at 0;start 0 at 0;", 2, 43);
        Skies.fits(D, "worth home 0 period 0 out 0;place ground 0 home;place ground 0;");
    }

    /** "(0, 0, 40, 40, 1000 0 0 without them, no START, no home)". */
    private static void withoutThem() {
        LastCloud x = Skies.under("place ground 0;place ground 0 field 5;lift 0 chance 9 up 20;");
        D.due("turn 0: 20 wins 1", x.climb(0, false), 1);
        D.due("water 0", x.worth(0, 0, 0, 0, false, true), NOTHING);
        D.due("ceiling 40", x.count(9), 40);
        D.due("last 40", x.count(8), 40);
        D.due("out 0", x.worth(0, 0, 0, 40, false, false), 0);
        D.due("period 0", x.worth(0, 1, 0, 40, false, false), 5);
        D.due("no start", x.count(6), -1);
        D.due("no home", x.home(0, 1, 0, 0, false, false), 0);
        D.due("home 1000", Skies.under("place ground 0 home;").worth(0, 0, 0, 40, false, false), 1000);
    }

    /** "3 points at most". */
    private static void threePointsAtMost() {
        String four = times(4, "place ground 0;");
        Skies.fits(D, four + "point 3;point 1;point 2;");
        Skies.fault(D, four + "point 3;point 1;point 2;point 0;", 3, 84);
    }

    /** "The START's height is held to its ground .. the ceiling", wherever the ceiling is told. */
    private static void theStartIsHeld() {
        String[] texts = {"place ground 9;start 0 at 8;", "place ground 9;start 0 at 9;", "place ground 9;start 0 at 10;",
            "place ground 9;start 0 at 40;", "place ground 9;start 0 at 41;", "place ground 9;start 0 at 32;ceiling 31;",
            "ceiling 60;place ground 9;start 0 at 60;", "place ground 30;start 0 at 0;"};
        int[] heights = {9, 9, 10, 40, 40, 31, 60, 30};
        for (int i = 0; i < texts.length; i++) {
            LastCloud x = Skies.under(texts[i]);
            x.fly(0, 0);
            D.due(texts[i], x.landed(1), heights[i]);
        }
    }

    /** "TOKENS, blanks (32, 10) aside": other blanks are none. */
    private static void blanksAreTwo() {
        Skies.fits(D, "  turn\n\n 5 \n;\n ");
        for (int sign : new int[] {9, 13, 11, 12, 0, 31, 33, 127, 128, 160, 255}) {
            Skies.fault(D, "turn 5" + (char) sign + ";", 1, 6);
            Skies.fault(D, "turn" + (char) sign + "5;", 1, 4);
        }
    }

    /** "the longest: words (a .. z), numbers (digits), the sign ;". */
    private static void theLongestToken() {
        Skies.fits(D, "turn5;water0;");
        Skies.fits(D, "place ground0home;start0at9wet;");
        Skies.fault(D, "turnwater 5;", 1, 0);
        // from a to z: one letter more is another word, from its first byte on
        for (char letter = 'a'; letter <= 'z'; letter++) {
            Skies.fault(D, " turn" + letter + " 5;", 1, 1);
            Skies.fault(D, letter + "turn 5;", 1, 0);
        }
        Skies.fault(D, "burn 5;", 1, 0);
        Skies.fault(D, "torn 5;", 1, 0);
        Skies.fault(D, "turm 5;", 1, 0);
        Skies.fault(D, "tur 5;", 1, 0);
        for (int digit = 0; digit <= 9; digit++) {
            Skies.fault(D, "turn 9" + digit + "99;", 2, 5);
            D.due("ceiling 3" + digit, Skies.tell(new LastCloud(), "ceiling 3" + digit + ";"), digit > 0 ? 1 : -4);
        }
        Skies.fault(D, "place ground 0 homestart;", 1, 15);
        // 1 and 5 behind one another are 15; a blank between makes them two
        D.due("12 is a number", Skies.under("ceiling 45;").count(9), 45);
        Skies.fault(D, "ceiling 4 5;", 2, 8);
        Skies.fault(D, "turn 5 5;", 1, 7);
        Skies.fits(D, "turn 0000000000000000000000000000000000000000000000000000000000000000000000000000000000999;");
    }

    /** "FAULTS, the first by its place (a TOKEN's first byte; the end's)". */
    private static void theFirstFaultByItsPlace() {
        Skies.fault(D, "turn 1000;cloud;", 2, 5);
        Skies.fault(D, "cloud;turn 1000;", 1, 0);
        Skies.fault(D, "turn 1;  turn 1000;", 2, 9);
        Skies.fault(D, times(8, "place ground 0;") + "place ground 31;", 3, 120);
        Skies.fault(D, times(7, "place ground 0;") + "place ground 31;place ground 0;", 2, 118);
        Skies.fault(D, "ceiling 00000061", 2, 8);
    }

    /** "of one place the least": what is told already, but can't stand there, is 1. */
    private static void theLeastFaultOfAPlace() {
        Skies.fault(D, "place ground 0 home;place ground 0 field 5 home;", 1, 43);
        Skies.fault(D, "place ground 0 home;place ground home;", 1, 33);
        Skies.fault(D, "place ground 0 home;home;", 1, 20);
        Skies.fault(D, "turn 5 turn 5;", 1, 7);
        Skies.fault(D, "turn 5;water turn;", 1, 13);
    }

    /** "(..; the end's)": the end's place is how many bytes there are, blanks among them. */
    private static void theEndsPlace() {
        Skies.fault(D, "turn 5", 1, 6);
        Skies.fault(D, "turn 5 \n ", 1, 9);
        Skies.fault(D, "t", 1, 0);
        Skies.fault(D, "turn", 1, 4);
        Skies.fault(D, "turn" + times(1596, " "), 1, 1600);
    }

    /** "1 a TOKEN that is none". */
    private static void noTokens() {
        Skies.fault(D, "turn -5;", 1, 5);
        Skies.fault(D, "turn 5,", 1, 6);
        Skies.fault(D, "Turn 5;", 1, 0);
        Skies.fault(D, "turn 5.0;", 1, 6);
        Skies.fault(D, "turn 5:", 1, 6);
        Skies.fault(D, "turn 5/", 1, 6);
        Skies.fault(D, "`turn 5;", 1, 0);
        Skies.fault(D, "turn{5;", 1, 4);
    }

    /** "1 .. or can't stand there". */
    private static void tokensThatCannotStand() {
        Skies.fault(D, ";", 1, 0);
        Skies.fault(D, "turn 5;;", 1, 7);
        Skies.fault(D, "7 turn;", 1, 0);
        Skies.fault(D, "turn;", 1, 4);
        Skies.fault(D, "turn 5 down;", 1, 7);
        Skies.fault(D, TWO + "leg 0 1 miles 1 down air 0 wind 0;", 1, 46);
        Skies.fault(D, TWO + "leg 0 1 miles 1 air 0 wind 0 hill 0 down;", 1, 66);
        Skies.fault(D, TWO + "leg 0 1 air 0 miles 1 wind 0;", 1, 38);
        Skies.fault(D, TWO + "lift 0 up 0 chance 0;", 1, 37);
        Skies.fault(D, TWO + "lift 0 chance 0 up 0 sign 0;", 1, 57);
        Skies.fault(D, TWO + "start 0 at 0 wet wet;", 1, 47);
        Skies.fault(D, "place ground 0 home field 5;", 1, 20);
    }

    /** "3 a 9th PLACE, 11th LEG, 7th SPEED, 4th point .. (at its first TOKEN)", whatever stands behind it. */
    private static void oneTooMany() {
        Skies.fits(D, times(8, "place ground 0;"));
        Skies.fault(D, times(9, "place ground 0;"), 3, 120);
        Skies.fault(D, times(8, "place ground 0;") + "\nplace", 3, 121);
        Skies.fits(D, TWO + times(10, LEG));
        Skies.fault(D, TWO + times(11, LEG), 3, 320);
        Skies.fault(D, TWO + times(10, LEG) + "leg 9 9", 3, 320);
        Skies.fits(D, times(6, "speed 20 sink 1;"));
        Skies.fault(D, times(7, "speed 20 sink 1;"), 3, 96);
        Skies.fault(D, times(6, "speed 20 sink 1;") + "speed 19", 3, 96);
        Skies.fault(D, times(3, "place ground 0;") + "point 0;point 1;point 2;point 2;", 3, 69);
    }

    // ---- promises 1 to 5 ----

    /** "No SKY." */
    private static void aNewObject() {
        LastCloud x = new LastCloud();
        int[] counts = {0, 0, 0, 0, 0, 0, -1, 0, 40, 40, 0};
        for (int what = 0; what < counts.length; what++) {
            D.due("count(" + what + ")", x.count(what), counts[what]);
        }
        D.due("no place", x.climb(0, false), -2);
        D.due("no leg", x.periods(0, false, 0, false), -2);
        D.due("no speeds", x.farthest(), -1);
        D.due("no start", x.start(0), NOTHING);
        D.due("no flight", x.landed(0), -1);
        D.due("no image", x.back(0), -6);
        D.due("no row", x.write(0, 0, 0), -6);
        D.due("no sights", x.unsee(1), -2);
    }

    /** "NONE, and none come, if it would have more than 1,600." */
    private static void aFullTape() {
        LastCloud x = new LastCloud();
        for (int i = 1; i <= 80; i++) {
            D.due("feed " + i, x.feed(0x20202020, 0x20202020, 0x20202020, 0x20202020, 0x20202020), 20 * i);
        }
        D.due("1,620 would be too many", x.feed(0x3b3b3b3b, 0, 0, 0, 0), -1);
        D.due("none came", x.count(7), 1600);
        D.due("cut", x.end(1581), 1581);
        D.due("1,601 would be too many", x.feed(0x3b3b3b3b, 0, 0, 0, 0), -1);
        D.due("none came", x.count(7), 1581);
        D.due("blanks alone still", x.sky(), 0);
        for (int i = 1; i <= 80; i++) {
            x.feed(0x20202020, 0x20202020, 0x20202020, 0x20202020, 0x20202020);
        }
        x.end(1580);
        D.due("1,600 are enough", x.feed(0x3b3b3b3b, 0, 0, 0, 0), 1600);
        D.due("they came", x.sky(), -4);
        D.due("behind the others", x.fault(1), 1580);
    }

    /** 1,600 bytes may be as many TOKENS, or one that ends where they end. */
    private static void aTapeOfTokens() {
        Skies.fault(D, times(1600, "?"), 1, 0);
        Skies.fault(D, times(800, "5;"), 1, 0);
        Skies.fault(D, times(228, "turn 5;") + " x x", 2, 7);
        Skies.fits(D, "turn 7;" + times(1593, " "));
        Skies.fits(D, "turn " + times(1594, "0") + ";");
        Skies.fault(D, "turn " + times(1595, "0"), 1, 1600);
        Skies.fault(D, times(1600, "9"), 1, 0);
        Skies.fault(D, times(1600, "x"), 1, 0);
        Skies.fault(D, "turn 5;" + times(1588, "\n") + "water", 1, 1600);
    }

    /** "Twenty bytes come behind the TAPE, four of each number, the highest first". */
    private static void fourBytesOfEachNumber() {
        LastCloud x = new LastCloud();
        // "last 47;" "ceil" "ing " "32 ;"
        D.due("twenty", x.feed(0x6c617374, 0x2034373b, 0x6365696c, 0x696e6720, 0x3332203b), 20);
        D.due("two lines", x.sky(), 2);
        D.due("the first", x.count(8), 47);
        D.due("the second", x.count(9), 32);
        // numbers below 0 have a highest byte above 127, which is no token
        x.feed(0x20202020, 0x202020ff, 0, 0, 0);
        D.due("-1 at the end", x.sky(), -4);
        D.due("its place", x.fault(1), 7);
        x.feed(Integer.MIN_VALUE, 0, 0, 0, 0);
        x.sky();
        D.due("the least number's highest byte comes first", x.fault(1), 0);
        x.feed(0x20202020, -1, 0x20202020, 0x20202020, 0x20202020);
        x.end(8);
        x.sky();
        D.due("all four", x.fault(1), 4);
    }

    /** "The TAPE has its first n bytes alone: n": all of them, none of them. */
    private static void anEndWithinTheTape() {
        LastCloud x = new LastCloud();
        D.due("none of none", x.end(0), 0);
        Skies.feed(x, "turn 5;turn 6;");
        D.due("all", x.end(14), 14);
        D.due("half", x.end(7), 7);
        D.due("the first ones", x.sky(), 1);
        Skies.feed(x, "turn 5;");
        D.due("none", x.end(0), 0);
        D.due("an empty sky", x.sky(), 0);
    }

    /** "NONE, and nothing happens, if it has not so many, or n is below 0." */
    private static void anEndBeyondTheTape() {
        LastCloud x = new LastCloud();
        D.due("1 of none", x.end(1), -1);
        Skies.feed(x, "turn 5;");
        for (int n : new int[] {8, 20, 1600, Integer.MAX_VALUE, -1, Integer.MIN_VALUE}) {
            D.due("end(" + n + ")", x.end(n), -1);
            D.due("nothing happened", x.count(7), 7);
        }
        D.due("it is as it was", x.sky(), 1);
        D.due("and empty then", x.end(1), -1);
    }

    /** "The TAPE (empty then) is the SKY (in place of another): how many LINES". */
    private static void anEmptyTape() {
        LastCloud x = Skies.under(HOME);
        D.due("the tape is empty", x.count(7), 0);
        D.due("no lines", x.sky(), 0);
        D.due("in place of the other", x.count(0), 0);
        D.due("without its start", x.start(0), NOTHING);
        D.due("one line", Skies.tell(x, "last 5;"), 1);
        D.due("no lines again", x.sky(), 0);
        D.due("without its last", x.count(8), 40);
    }

    /** "no SIGHTS then". */
    private static void noSightsBehindASky() {
        LastCloud x = Skies.under(HOME);
        for (int i = 1; i <= 20; i++) {
            x.sight(0, 0);
        }
        D.due("20", x.count(5), 20);
        Skies.tell(x, HOME);
        D.due("none", x.count(5), 0);
        D.due("the chance is as told", x.chance(0), 0);
        D.due("none can be taken back", x.unsee(1), -2);
    }

    /** "(the latest flight stays)". */
    private static void theLatestFlightStays() {
        LastCloud x = Skies.under(HOME);
        D.due("a landing alone", x.fly(0, 0), 1);
        x.sky();
        D.due("its deed", x.flown(0, 0), -1);
        D.due("its height", x.flown(0, 2), 9);
        D.due("its worth", x.landed(3), 1000);
    }

    /** "-4: a FAULT (the TAPE is empty, all else stays)". */
    private static void aFaultLeavesAllElse() {
        LastCloud x = Skies.under(HOME + "turn 7;");
        x.sight(0, 0);
        x.fly(0, 0);
        x.keep(1);
        x.row(2, 0, 1);
        D.due("a fault", Skies.tell(x, "place ground 5;turn 8;start 0 at 7;last 3;x"), -4);
        D.due("the tape is empty", x.count(7), 0);
        int[] counts = {1, 0, 0, 0, 3, 1, 0, 0, 40, 40, 1};
        for (int what = 0; what < counts.length; what++) {
            D.due("count(" + what + ") stays", x.count(what), counts[what]);
        }
        D.due("the chance stays", x.chance(0), 100);
        D.due("the worth stays", x.start(0), 1000);
        D.due("the flight stays", x.landed(1), 9);
        D.due("the row stays", x.write(2, 0, 0), 0);
        D.due("the image stays", x.back(1), 0);
        D.due("its sights too", x.count(5), 1);
    }

    /** "NONE .. ahead of any (what 1)", and "0 without". */
    private static void noFaultAheadOfAny() {
        LastCloud x = new LastCloud();
        D.due("fault(0)", x.fault(0), 0);
        D.due("fault(1)", x.fault(1), -1);
        x.feed(-1, -1, -1, -1, -1);
        D.due("ahead of sky() still", x.fault(0), 0);
        D.due("ahead of sky() still", x.fault(1), -1);
    }

    /** "Of the latest sky() .. its FAULT, 0 without, 1: its place (NONE without)". */
    private static void noFaultBehindAGoodOne() {
        LastCloud x = new LastCloud();
        Skies.tell(x, "x");
        D.due("a fault", x.fault(0), 1);
        D.due("at 0", x.fault(1), 0);
        Skies.tell(x, "turn 1;");
        D.due("none", x.fault(0), 0);
        D.due("without a place", x.fault(1), -1);
        Skies.tell(x, "turn 1000;");
        D.due("another", x.fault(0), 2);
        D.due("at 5", x.fault(1), 5);
        x.keep(0);
        x.back(0);
        D.due("of the latest sky() still", x.fault(0), 2);
        D.due("of the latest sky() still", x.fault(1), 5);
    }

    /** "NONE for another what". */
    private static void noOtherFault() {
        LastCloud x = new LastCloud();
        Skies.tell(x, "turn 1000;");
        for (int what : new int[] {-1, 2, 3, Integer.MAX_VALUE, Integer.MIN_VALUE}) {
            D.due("fault(" + what + ")", x.fault(what), -1);
        }
    }
}
