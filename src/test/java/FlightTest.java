/** Promises 36 to 42: flights by seeds, and rows of deeds. The draws of 100 by a seed: 0: 0, 68, 88; 1: 38, 58, 13;
 * 2: 8, 17, 39; 3: 47; 4: 17, 66, 91; 5: 55; 6: 26; 7: 64, 6; 8: 34; 9: 72; 10: 43; 11: 81; 2,000,000,000: 4. */
public final class FlightTest {
    private static final Due D = new Due("FlightTest");
    private static final int NOTHING = -2000000000;

    public static void main(String[] args) {
        oneFlight();
        drawsBehindLegs();
        latestStays();
        noFlights();
        together();
        soonestHome();
        rows();
        letsGo();
        noRows();
        D.finish();
    }

    private static void deed(LastCloud x, int i, int... want) {
        for (int what = 0; what < 5; what++) {
            D.due("flown(" + i + ", " + what + ")", x.flown(i, what), want[what]);
        }
        D.due("flown(" + i + ", 5)", x.flown(i, 5), -1);
        D.due("flown(" + i + ", -1)", x.flown(i, -1), -1);
    }

    private static void end(LastCloud x, int... want) {
        for (int what = 0; what < 5; what++) {
            D.due("landed(" + what + ")", x.landed(what), want[what]);
        }
        D.due("landed(5)", x.landed(5), -1);
        D.due("landed(-1)", x.landed(-1), -1);
    }

    private static void oneFlight() {
        LastCloud x = Skies.under(RuleTest.CLIMB_FIRST);
        D.due("ahead of any", x.flown(0, 1), -1);
        D.due("ahead of any", x.landed(1), -1);
        D.due("fly(0, 0)", x.fly(0, 0), 3);
        deed(x, 0, 0, 0, 5, 0, 1);
        deed(x, 1, 100, 0, 25, 1, 1);
        deed(x, 2, -1, 1, 5, 3, 0);
        deed(x, 3, -1, -1, -1, -1, -1);
        deed(x, -1, -1, -1, -1, -1, -1);
        end(x, 1, 5, 3, 70, 1);
        D.due("fly(0, 5)", x.fly(0, 5), 1);
        deed(x, 0, -1, 0, 5, 0, 0);
        deed(x, 1, -1, -1, -1, -1, -1);
        end(x, 0, 5, 0, -40, 3);
        D.due("47 is below 50", x.fly(1, 3), 3);
        D.due("the greatest seed", x.fly(0, 2000000000), 3);
        x.sight(0, 0);
        D.due("it is there", x.fly(0, 5), 3);
        x.sight(0, 1);
        D.due("it is not there", x.fly(0, 0), 1);
        x = Skies.under(RuleTest.CLIMB_FIRST.replace("chance 50", "chance 47"));
        D.due("47 is not below 47", x.fly(0, 3), 1);
        x = Skies.under(RuleTest.CLIMB_FIRST.replace("chance 50", "chance 48"));
        D.due("47 is below 48", x.fly(0, 3), 3);
    }

    private static void drawsBehindLegs() {
        LastCloud x = Skies.under(RuleTest.BY_A_CLOUD + "60 up 400;");
        // one draw at the start, though it has no lift; the next behind the leg
        D.due("68 is not below 60", x.fly(0, 0), 2);
        end(x, 1, 5, 2, -200, 3);
        // periods cost nothing: to the ceiling, then to and fro by leg 0, the first of several
        D.due("58 is below 60", x.fly(0, 1), 16);
        deed(x, 3, 100, 1, 40, 4, 1);
        deed(x, 4, 100, 0, 30, 6, 0);
        D.due("safely", x.fly(1, 1), 1);
        end(x, 0, 15, 0, 50, 2);
        x = Skies.under(RuleTest.BY_A_CLOUD.replace("period 0", "period 1") + "60 up 400;");
        D.due("a period costs 1", x.fly(0, 1), 4);
        deed(x, 0, 100, 0, 15, 0, 0);
        deed(x, 1, 0, 1, 5, 2, 1);
        deed(x, 2, 110, 1, 25, 3, 1);
        deed(x, 3, -1, 2, 15, 5, 0);
        end(x, 2, 15, 5, 995, 1);
    }

    private static void latestStays() {
        LastCloud x = Skies.under(RuleTest.BY_A_CLOUD + "60 up 400;");
        x.fly(0, 0);
        x.keep(0);
        x.row(0, 1, 1);
        x.write(0, 0, -1);
        D.due("none", x.fly(4, 0), -2);
        D.due("others", x.flights(0, 1, 3), x.flights(0, 1, 3));
        x.sum(0, 1, 2);
        x.spread(0, 1, 2, 0);
        x.judge(0, 1);
        x.drop();
        end(x, 1, 5, 2, -200, 3);
        Skies.tell(x, "place ground 0 home;");
        end(x, 1, 5, 2, -200, 3);
        deed(x, 0, 100, 0, 15, 0, 0);
        Skies.tell(x, "cloud");
        x.back(0);
        end(x, 1, 5, 2, -200, 3);
    }

    private static void noFlights() {
        LastCloud x = Skies.under(RuleTest.CLIMB_FIRST);
        D.due("no rule", x.fly(4, 0), -2);
        D.due("no rule", x.fly(-1, 0), -2);
        D.due("no seed", x.fly(0, -1), -2);
        D.due("no seed", x.fly(0, 2000000001), -2);
        int[][] bad = {{4, 0, 1}, {-1, 0, 1}, {0, -1, 1}, {0, 2000000001, 1}, {0, 0, 0}, {0, 0, 41}, {0, 0, -1}};
        for (int[] b : bad) {
            D.due("flights", x.flights(b[0], b[1], b[2]), -2);
            D.due("sum", x.sum(b[0], b[1], b[2]), NOTHING);
            D.due("spread", x.spread(b[0], b[1], b[2], 0), NOTHING);
        }
        D.due("no what", x.spread(0, 0, 1, 5), NOTHING);
        D.due("no what", x.spread(0, 0, 1, -1), NOTHING);
        D.due("none of them flew", x.landed(0), -1);
        x = Skies.under("place ground 0 home;");
        D.due("no start", x.fly(0, 0), -2);
        D.due("no start", x.flights(0, 0, 1), -2);
        D.due("no start", x.sum(0, 0, 1), NOTHING);
        D.due("no start", x.spread(0, 0, 1, 0), NOTHING);
    }

    private static void together() {
        LastCloud x = Skies.under(RuleTest.CLIMB_FIRST);
        // seeds 0 .. 5: there but for the last
        D.due("flights(0, 0, 6)", x.flights(0, 0, 6), 5);
        D.due("sum(0, 0, 6)", x.sum(0, 0, 6), 310);
        D.due("the least", x.spread(0, 0, 6, 0), -40);
        D.due("the greatest", x.spread(0, 0, 6, 1), 70);
        D.due("out", x.spread(0, 0, 6, 2), 1);
        D.due("periods", x.spread(0, 0, 6, 3), 15);
        D.due("the most deeds", x.spread(0, 0, 6, 4), 3);
        D.due("one", x.flights(0, 5, 1), 0);
        D.due("two", x.flights(0, 5, 2), 1);
        D.due("one's sum", x.sum(0, 5, 1), -40);
        D.due("one's deeds", x.spread(0, 5, 1, 4), 1);
        D.due("40", x.flights(0, 0, 40), 21);
        D.due("40 together", x.sum(0, 0, 40), 710);
        D.due("from the greatest seed", x.flights(0, 2000000000, 1), 1);
        // home less the periods, field, out: 1 of each
        x = Skies.under(RuleTest.BY_A_CLOUD + "60 up 400;");
        D.due("out by 0, home by 1", x.sum(0, 0, 2), 800);
        D.due("safely twice a field", x.sum(1, 0, 2), 100);
        D.due("a field is not out", x.spread(1, 0, 2, 2), 0);
        D.due("nor home", x.flights(1, 0, 2), 0);
    }

    private static void soonestHome() {
        // of rule 2 a landing's worth is told by its own
        LastCloud x = Skies.under(RuleTest.CLIMB_FIRST);
        D.due("fly(2, 0)", x.fly(2, 0), 3);
        D.due("its worth", x.landed(3), 9997);
        D.due("fly(2, 5)", x.fly(2, 5), 1);
        D.due("its worth", x.landed(3), 0);
        D.due("sum", x.sum(2, 4, 2), 9997);
        D.due("least", x.spread(2, 4, 2, 0), 0);
        D.due("greatest", x.spread(2, 4, 2, 1), 9997);
    }

    private static int judged(LastCloud x, int seed, long... row) {
        x.row(1, 3, row.length);
        for (int i = 0; i < row.length; i++) {
            x.write(1, i, row[i]);
        }
        return x.judge(1, seed);
    }

    private static void rows() {
        LastCloud x = Skies.under(RuleTest.CLIMB_FIRST);
        D.due("none", judged(x, 0), 0);
        D.due("all", judged(x, 0, 0, 100, -1), 3);
        D.due("no lift", judged(x, 5, 0, 100, -1), 0);
        D.due("too low", judged(x, 0, 100), 0);
        D.due("a landing ends it", judged(x, 5, -1, -1, 0), 1);
        D.due("to the ceiling", judged(x, 0, 0, 0, 0), 2);
        D.due("no water", judged(x, 0, 1), 0);
        D.due("too low to go back", judged(x, 0, 0, 100, 100), 2);
        D.due("back at the last period", judged(x, 2, 0, 0, 100, 100, 0), 4);
        D.due("no leg at the last period", judged(x, 2, 0, 0, 100, 100, 100), 4);
        D.due("landing at the last period", judged(x, 2, 0, 0, 100, 100, -1), 5);
        LastCloud longer = Skies.under(RuleTest.CLIMB_FIRST.replace("last 6", "last 7"));
        D.due("a period more, 39 is below 50", judged(longer, 2, 0, 0, 100, 100, 0), 5);
        D.due("91 is not", judged(longer, 4, 0, 0, 100, 100, 0), 4);
        // 15 lost: half of it is 7
        String hill = "place ground 0;place ground 2;leg 0 1 miles 5 air 0 wind 0 hill 12;speed 45 sink 150;start 0 at ";
        D.due("over the hill", judged(Skies.under(hill + "19;"), 0, 100), 1);
        D.due("not over it", judged(Skies.under(hill + "18;"), 0, 100), 0);
        D.due("to its ground", judged(Skies.under(hill.replace(" hill 12", "") + "17;"), 0, 100), 1);
        D.due("below it", judged(Skies.under(hill.replace(" hill 12", "") + "16;"), 0, 100), 0);
        // each leg takes 2 periods and nothing else; back against the wind it can't be flown
        LastCloud level = Skies.under("place ground 0;place ground 0;leg 0 1 miles 5 air 100 wind 0;speed 60 sink 100;"
            + "speed 20 sink 100;leg 1 0 miles 1 air 100 wind 20;last 5;start 0 at 5;");
        D.due("periods are left for two", judged(level, 0, 100, 100, 100), 2);
        D.due("one more takes 1", judged(level, 0, 100, 100, 110), 3);
        D.due("with the wind", judged(level, 0, 100, 111), 2);
        D.due("against it", judged(level, 0, 111), 0);
        for (long none : new long[] {2, 99, 101, 106, 110, 200, -2, 1L << 32, (1L << 32) + 100, Long.MIN_VALUE,
            Long.MAX_VALUE, 10000}) {
            D.due("no deed " + none, judged(x, 0, 0, none, 100), 1);
        }
        LastCloud three = Skies.under(RuleTest.BY_A_CLOUD + "60 up 400;");
        D.due("a leg from elsewhere", judged(three, 0, 110), 0);
        D.due("one after the other, no lift", judged(three, 0, 100, 0), 1);
        D.due("back and forth", judged(three, 1, 100, 0, 100, 100, 110), 4);
        D.due("higher", judged(three, 1, 100, 0, 0, 100, 100, 110), 6);
    }

    private static void letsGo() {
        LastCloud x = Skies.under("water 20;turn 100;place ground 0;place ground 0 home;leg 0 1 miles 5 air 0 wind 0;"
            + "lift 0 chance 100 up 120;speed 60 sink 100;start 0 at 8 wet;");
        D.due("it has some, once", judged(x, 0, 1, 1), 1);
        D.due("wet it does not climb", judged(x, 0, 0), 0);
        D.due("dry it does", judged(x, 0, 1, 0, 0, 100, -1), 5);
        D.due("wet it comes home", judged(x, 0, 100, -1), 2);
        D.due("dry it does not", judged(x, 0, 1, 100), 1);
        D.due("a field of the row alone is written", x.write(1, 0, 0), 0);
        D.due("then", x.judge(1, 0), 0);
    }

    private static void noRows() {
        LastCloud x = Skies.under(RuleTest.CLIMB_FIRST);
        D.due("nothing", x.judge(0, 0), -6);
        D.due("no slot", x.judge(4, 0), -2);
        D.due("no slot", x.judge(-1, 0), -2);
        D.due("no seed", x.judge(0, -1), -2);
        D.due("no seed", x.judge(0, 2000000001), -2);
        x.row(0, 0, 2);
        x.write(0, 1, 100 + 256);
        D.due("cut to its width", x.judge(0, 0), 2);
        LastCloud none = Skies.under("place ground 0;");
        D.due("no start", none.judge(0, 0), -2);
        none.row(0, 0, 2);
        D.due("no start", none.judge(0, 0), -2);
    }
}
