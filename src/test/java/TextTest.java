/** Promises 1 to 5: a new object, the tape, a sky's text and its faults. */
public final class TextTest {
    private static final Due D = new Due("TextTest");
    private static final String TWO = "place ground 0;place ground 0;";

    public static void main(String[] args) {
        newObject();
        tape();
        skies();
        defaults();
        noTokens();
        numbers();
        fullTapes();
        toldPlaces();
        toldAlready();
        tooMany();
        faultsInOrder();
        D.finish();
    }

    private static void newObject() {
        LastCloud x = new LastCloud();
        D.due("NONE", LastCloud.NONE, -1);
        for (int what = 0; what <= 5; what++) {
            D.due("count of a new object " + what, x.count(what), 0);
        }
        D.due("no start", x.count(6), -1);
        D.due("no tape", x.count(7), 0);
        D.due("no slots", x.count(10), 0);
        D.due("fault(0) ahead of any", x.fault(0), 0);
        D.due("fault(1) ahead of any", x.fault(1), -1);
        D.due("no start's worth", x.start(0), -2000000000);
    }

    private static void tape() {
        LastCloud x = new LastCloud();
        D.due("end(0) of nothing", x.end(0), 0);
        D.due("end(1) of nothing", x.end(1), -1);
        D.due("feed", x.feed(0x7475726e, 0x2035203b, -1, Integer.MIN_VALUE, 0x80), 20);
        D.due("end beyond", x.end(21), -1);
        D.due("end below 0", x.end(-1), -1);
        D.due("nothing happened", x.count(7), 20);
        D.due("end(8)", x.end(8), 8);
        D.due("turn 5 ;", x.sky(), 1);
        D.due("the tape is empty", x.count(7), 0);
        for (int i = 1; i <= 80; i++) {
            D.due("feed " + i, x.feed(0, 0, 0, 0, 0), 20 * i);
        }
        D.due("a full tape", x.feed(0, 0, 0, 0, 0), -1);
        D.due("none came", x.count(7), 1600);
        D.due("cut", x.end(1581), 1581);
        D.due("19 are too few", x.feed(1, 1, 1, 1, 1), -1);
        D.due("none came", x.count(7), 1581);
        D.due("cut", x.end(1580), 1580);
        D.due("20 are enough", x.feed(1, 1, 1, 1, 1), 1600);
        D.due("all", x.end(1600), 1600);
        D.due("none", x.end(0), 0);
        D.due("empty", x.sky(), 0);
        // the bytes stand in their order, the highest first, behind those that are there
        D.due("feed", x.feed(0x6c617374, 0x20333b20, 0x74757274, 0, 0), 20);
        x.end(8);
        x.feed(0x7475726e, 0x20373b0a, 0, 0, 0);
        x.end(16);
        D.due("last 3; turn 7;", x.sky(), 2);
        D.due("last", x.count(8), 3);
    }

    private static void skies() {
        LastCloud x = new LastCloud();
        D.due("a sky", Skies.tell(x, TWO + "start 1 at 7;"), 3);
        D.due("places", x.count(0), 2);
        D.due("a sight", x.sight(0, 0), 1);
        D.due("fault(0)", x.fault(0), 0);
        D.due("fault(1)", x.fault(1), -1);
        D.due("fault(2)", x.fault(2), -1);
        D.due("fault(-1)", x.fault(-1), -1);
        D.due("a faulty one", Skies.tell(x, "place ground 0;\nplaces"), -4);
        D.due("its fault", x.fault(0), 1);
        D.due("its place", x.fault(1), 16);
        D.due("another what", x.fault(2), -1);
        D.due("the tape is empty", x.count(7), 0);
        D.due("the sky stays", x.count(0), 2);
        D.due("its lines stay", x.count(4), 3);
        D.due("the start stays", x.count(6), 1);
        D.due("the sights stay", x.count(5), 1);
        D.due("the chance stays", x.chance(0), 100);
        D.due("another sky", Skies.tell(x, "place ground 9;"), 1);
        D.due("in place of the first", x.count(0), 1);
        D.due("without a start", x.count(6), -1);
        D.due("no sights", x.count(5), 0);
        D.due("no chance", x.chance(0), 0);
        D.due("no fault", x.fault(0), 0);
        D.due("no place", x.fault(1), -1);
        D.due("an empty one", x.sky(), 0);
        D.due("no places", x.count(0), 0);
        D.due("every kind", Skies.tell(x, "place ground 30 field 999;place ground 0 home;leg 0 1 miles 60 air 999 down "
            + "wind 60 down hill 40;lift 0 chance 100 up 2000 sign 100 100;speed 150 sink 999;turn 999;water 50;"
            + "ceiling 60;last 47;worth home 9999 period 99 out 9999;start 1 at 60 wet;point 0;"), 12);
        D.due("blanks aside", Skies.tell(x, " \n place\nground  007;turn0;water 00;\n"), 3);
        D.due("longest tokens", Skies.tell(x, "place ground 3field 4;place ground0home;leg 0 1miles 2air 3down wind 4down"
            + " hill 5;lift 0chance 6up 7sign 8 9;start 0at 9wet;point 1;"), 6);
        // 8 places, 10 legs, 8 lifts, 6 speeds, 3 points and 6 of one kind each are the most lines there can be
        StringBuilder all = new StringBuilder();
        for (int i = 0; i < 8; i++) {
            all.append("place ground 0;lift ").append(i).append(" chance 0 up 0;");
        }
        for (int i = 0; i < 10; i++) {
            all.append("leg 0 1 miles 1 air 0 wind 0;");
        }
        for (int i = 0; i < 6; i++) {
            all.append("speed 20 sink 1;");
        }
        all.append("turn 0;water 0;ceiling 40;last 40;worth home 0 period 0 out 0;start 0 at 0;point 0;point 1;point 2;");
        D.due("the most lines", Skies.tell(x, all.toString()), 41);
        D.due("lifts", x.count(2), 8);
        D.due("legs", x.count(1), 10);
        D.due("speeds", x.count(3), 6);
    }

    private static void defaults() {
        LastCloud x = Skies.under("place ground 0 home;place ground 0;start 0 at 50;lift 0 chance 100 up 20;");
        D.due("ceiling 40", x.count(9), 40);
        D.due("last 40", x.count(8), 40);
        D.due("worth home 1000 period 0", x.worth(0, 0, 0, 40, false, false), 1000);
        D.due("out 0", x.worth(0, 1, 0, 40, false, false), 0);
        D.due("turn 0", x.climb(0, false), 1);
        D.due("water 0", x.worth(0, 0, 0, 0, false, true), -2000000000);
        x.fly(0, 0);
        D.due("the start is held to the ceiling", x.landed(1), 40);
        x = Skies.under("place ground 9;start 0 at 60;ceiling 55;");
        x.fly(0, 0);
        D.due("a ceiling told behind", x.landed(1), 55);
        x = Skies.under("place ground 9;start 0 at 8;");
        x.fly(0, 0);
        D.due("the start is held to its ground", x.landed(1), 9);
    }

    private static void fault(String text, int fault, int place) {
        Skies.fault(D, text, fault, place);
    }

    private static void fits(String text) {
        Skies.fits(D, text);
    }

    private static void noTokens() {
        fault(";", 1, 0);
        fault("5", 1, 0);
        fault(" \n cloud 5;", 1, 3);
        fault("turn", 1, 4);
        fault("turn  \n", 1, 7);
        fault("turn 5", 1, 6);
        fault("turn 5\n ", 1, 8);
        fault("turn 5 6;", 1, 7);
        fault("turn ;", 1, 5);
        fault("turn 5;;", 1, 7);
        fault("turn -5;", 1, 5);
        fault("Turn 5;", 1, 0);
        fault("turN 5;", 1, 0);
        fault("turns 5;", 1, 0);
        fault("tur 5;", 1, 0);
        fault("burn 5;", 1, 0);
        fault("torn 5;", 1, 0);
        fault("turm 5;", 1, 0);
        fault("turn\t5;", 1, 4);
        fault("turn\r5;", 1, 4);
        fault("turn 5;" + (char) 233, 1, 7);
        fault("turn 5" + (char) 0 + ";", 1, 6);
        fault("turn 5;@", 1, 7);
        fault("turn five;", 1, 5);
        fault("place 5;", 1, 6);
        fault("place ground;", 1, 12);
        fault("place ground home;", 1, 13);
        fault("place ground 5 wet;", 1, 15);
        fault("place ground 5 home home;", 1, 20);
        fault("place ground 5 field 6 home;", 1, 23);
        fault("place ground 5 field;", 1, 20);
        fault(TWO + "leg 0 1 air", 1, 38);
        fault(TWO + "leg 0 1 miles 5 wind", 1, 46);
        fault(TWO + "leg 0 1 miles 5 air 5 hill", 1, 52);
        fault(TWO + "leg 0 1 miles 5 air down", 1, 50);
        fault(TWO + "leg 0 1 miles 5 air 5 down down", 1, 57);
        fault(TWO + "leg 0 1 miles 5 air 5 wind 5 hill 5 down;", 1, 66);
        fault(TWO + "leg 0 1 miles 5 air 5 wind 5 down hill;", 1, 68);
        fault(TWO + "lift 0 up 5;", 1, 37);
        fault(TWO + "lift 0 chance 5 sign 5;", 1, 46);
        fault(TWO + "lift 0 chance 5 up 5 sign 5;", 1, 57);
        fault("speed 50 50;", 1, 9);
        fault("worth 5;", 1, 6);
        fault("worth home 5 out 5;", 1, 13);
        fault("worth home 5 period 5;", 1, 21);
        fault(TWO + "start 0 5;", 1, 38);
        fault(TWO + "start at 5;", 1, 36);
        fault(TWO + "start 0 at 5 dry;", 1, 43);
        fault(TWO + "point;", 1, 35);
        fault(TWO + "point 0 wet;", 1, 38);
    }

    private static void bounds(String ahead, int least, int greatest, String behind) {
        Skies.bounds(D, ahead, least, greatest, behind);
    }

    private static void numbers() {
        bounds("place ground ", 0, 30, ";");
        bounds("place ground 1 field ", 0, 999, ";");
        bounds(TWO + "leg 0 1 miles ", 1, 60, " air 0 wind 0;");
        bounds(TWO + "leg 0 1 miles 1 air ", 0, 999, " wind 0;");
        bounds(TWO + "leg 0 1 miles 1 air ", 0, 999, " down wind 0;");
        bounds(TWO + "leg 0 1 miles 1 air 0 wind ", 0, 60, ";");
        bounds(TWO + "leg 0 1 miles 1 air 0 wind ", 0, 60, " down;");
        bounds(TWO + "leg 0 1 miles 1 air 0 wind 0 hill ", 0, 40, ";");
        bounds(TWO + "lift 0 chance ", 0, 100, " up 0;");
        bounds(TWO + "lift 0 chance 0 up ", 0, 2000, ";");
        bounds(TWO + "lift 0 chance 0 up 0 sign ", 0, 100, " 0;");
        bounds(TWO + "lift 0 chance 0 up 0 sign 0 ", 0, 100, ";");
        bounds("speed ", 20, 150, " sink 1;");
        bounds("speed 20 sink ", 1, 999, ";");
        bounds("turn ", 0, 999, ";");
        bounds("water ", 0, 50, ";");
        bounds("ceiling ", 31, 60, ";");
        bounds("last ", 1, 47, ";");
        bounds("worth home ", 0, 9999, " period 0 out 0;");
        bounds("worth home 0 period ", 0, 99, " out 0;");
        bounds("worth home 0 period 0 out ", 0, 9999, ";");
        bounds(TWO + "start 0 at ", 0, 60, ";");
        fits("turn 000000000000000000000000000005;");
    }

    private static void fullTapes() {
        StringBuilder signs = new StringBuilder();
        StringBuilder blanks = new StringBuilder("turn 5;");
        for (int i = 0; i < 1600; i++) {
            signs.append(i % 2 == 0 ? ';' : '?');
        }
        for (int i = 7; i < 1600; i++) {
            blanks.append(i % 3 == 0 ? '\n' : ' ');
        }
        fault(signs.toString(), 1, 0);
        fits(blanks.toString());
        fault(blanks.toString().substring(1) + "x", 1, 0);
        blanks.setCharAt(1599, ';');
        fault(blanks.toString(), 1, 1599);
        blanks.setCharAt(6, ' ');
        fits(blanks.toString());
        blanks.setCharAt(1599, ' ');
        fault(blanks.toString(), 1, 1600);
    }

    private static void toldPlaces() {
        fault("leg 0 1 miles 1 air 0 wind 0;", 2, 4);
        fault("place ground 0;leg 0 1 miles 1 air 0 wind 0;", 2, 21);
        fault(TWO + "leg 2 1 miles 1 air 0 wind 0;", 2, 34);
        fault(TWO + "leg 1 1 miles 1 air 0 wind 0;", 2, 36);
        fault(TWO + "leg 0 0 miles 1 air 0 wind 0;", 2, 36);
        fits(TWO + "leg 1 0 miles 1 air 0 wind 0;leg 1 0 miles 1 air 0 wind 0;");
        fault(TWO + "lift 2 chance 0 up 0;", 2, 35);
        fault(TWO + "lift 1 chance 0 up 0;lift 1 chance 0 up 0;", 2, 56);
        fits(TWO + "lift 1 chance 0 up 0;lift 0 chance 0 up 0;");
        fault(TWO + "start 2 at 5;", 2, 36);
        fault("start 0 at 5;place ground 0;", 2, 6);
        fault(TWO + "point 2;", 2, 36);
        fault(TWO + "point 1;point 1;", 2, 44);
        fits(TWO + "point 1;point 0;");
        fault(TWO + "point 40;", 2, 36);
    }

    private static void toldAlready() {
        fault("turn 1;turn 1;", 2, 7);
        fault("water 1;water 1;", 2, 8);
        fault("ceiling 40;ceiling 40;", 2, 11);
        fault("last 1;last 1;", 2, 7);
        fault("worth home 0 period 0 out 0;worth home 0 period 0 out 0;", 2, 28);
        fault(TWO + "start 0 at 5;start 1 at 5;", 2, 43);
        fault("place ground 0 home;place ground 0 home;", 2, 35);
        fits("worth home 0 period 0 out 0;place ground 0 home;");
        fits("turn 0;water 0;ceiling 40;last 40;");
    }

    private static void tooMany() {
        StringBuilder eight = new StringBuilder();
        for (int i = 0; i < 8; i++) {
            eight.append("place ground 0;");
        }
        fits(eight.toString());
        fault(eight + " place ground 0;", 3, 121);
        StringBuilder legs = new StringBuilder(TWO);
        for (int i = 0; i < 10; i++) {
            legs.append("leg 0 1 miles 1 air 0 wind 0;");
        }
        fits(legs.toString());
        fault(legs + "leg 5", 3, 320);
        StringBuilder speeds = new StringBuilder();
        for (int i = 0; i < 6; i++) {
            speeds.append("speed 20 sink 1;");
        }
        fits(speeds.toString());
        fault(speeds + "speed 20 sink 1;", 3, 96);
        fits(eight + "point 0;point 1;point 2;");
        fault(eight + "point 0;point 1;point 2;point 3;", 3, 144);
        fault(eight + "point 0;point 1;point 2;point 2;", 3, 144);
        fault(eight + "point 0;point 1;point 2;points", 1, 144);
    }

    private static void faultsInOrder() {
        fault("turn 1000;cloud", 2, 5);
        fault("cloud;turn 1000;", 1, 0);
        fault("turn 1;turn 1000;", 2, 7);
        fault("place ground 31 home", 2, 13);
        fault("turn 1000", 2, 5);
    }
}
