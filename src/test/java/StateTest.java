/** Promises 47 to 52: counts, images and slots. */
public final class StateTest {
    private static final Due D = new Due("StateTest");

    public static void main(String[] args) {
        counts();
        images();
        rows();
        widths();
        pastes();
        pastesWithin();
        D.finish();
    }

    private static void counts() {
        LastCloud x = Skies.under("place ground 0;place ground 0;place ground 0;leg 0 1 miles 1 air 0 wind 0;"
            + "lift 2 chance 0 up 0;lift 0 chance 5 up 5;speed 20 sink 1;speed 20 sink 1;speed 20 sink 1;speed 20 sink 1;"
            + "ceiling 33;last 44;start 2 at 5;");
        x.sight(1, 0);
        x.feed(0, 0, 0, 0, 0);
        x.row(3, 0, 0);
        int[] want = {3, 1, 2, 4, 13, 1, 2, 20, 44, 33, 1};
        for (int what = 0; what < want.length; what++) {
            D.due("count(" + what + ")", x.count(what), want[what]);
        }
        D.due("count(11)", x.count(11), -1);
        D.due("count(-1)", x.count(-1), -1);
        D.due("count(MIN)", x.count(Integer.MIN_VALUE), -1);
    }

    private static void images() {
        LastCloud x = new LastCloud();
        D.due("keep(3)", x.keep(3), -2);
        D.due("keep(-1)", x.keep(-1), -2);
        D.due("back(3)", x.back(3), -2);
        D.due("back(-1)", x.back(-1), -2);
        D.due("back(0)", x.back(0), -6);
        D.due("no sky is kept", x.keep(2), 0);
        Skies.tell(x, RuleTest.CLIMB_FIRST);
        x.sight(0, 0);
        D.due("start", x.start(0), 70);
        D.due("keep(0)", x.keep(0), 0);
        x.sight(0, 1);
        D.due("start", x.start(0), -40);
        x.unsee(2);
        D.due("start", x.start(0), 15);
        Skies.tell(x, RuleTest.BY_A_CLOUD + "80 up 400 sign 90 10;water 9;point 1;");
        x.sight(1, 2);
        D.due("keep(1)", x.keep(1), 0);
        x.row(1, 1, 1);
        x.feed(0, 0, 0, 0, 0);
        D.due("back(0)", x.back(0), 0);
        D.due("start", x.start(0), 70);
        D.due("soon", x.soon(), 3);
        D.due("sights", x.count(5), 1);
        D.due("lines", x.count(4), 8);
        D.due("last", x.count(8), 6);
        D.due("the tape stays", x.count(7), 20);
        D.due("the slots stay", x.count(10), 1);
        D.due("back again", x.back(0), 0);
        D.due("unsee", x.unsee(1), 0);
        D.due("the image stays", x.back(0), 0);
        D.due("sights", x.count(5), 1);
        D.due("back(1)", x.back(1), 0);
        D.due("its chance", x.chance(1), 97);
        D.due("its legs", x.count(1), 2);
        D.due("its edge", x.edge(1, false), 10);
        D.due("its points", x.soonest(0), -1);
        D.due("its start", x.start(0), 964);
        D.due("keep(0) anew", x.keep(0), 0);
        D.due("back(2)", x.back(2), 0);
        D.due("no places", x.count(0), 0);
        D.due("no start", x.start(0), -2000000000);
        D.due("back(0)", x.back(0), 0);
        D.due("start", x.start(0), 964);
        x.end(0);
        D.due("another sky", Skies.tell(x, "place ground 3;place ground 4;leg 1 0 miles 9 air 9 wind 9 hill 9;speed 99 sink 99;"), 4);
        x.back(0);
        D.due("its first leg", x.periods(0, false, 0, false), 2);
        D.due("its first speed", x.loss(0, false, 0, false), 10);
        D.due("its grounds", x.reach(0, 10, 1, false), 0);
        Skies.tell(x, "cloud");
        x.back(2);
        D.due("the fault stays", x.fault(0), 1);
    }

    private static void rows() {
        LastCloud x = new LastCloud();
        D.due("no slot", x.row(4, 0, 1), -2);
        D.due("no slot", x.row(-1, 0, 1), -2);
        D.due("no width", x.row(0, 4, 1), -2);
        D.due("no width", x.row(0, -1, 1), -2);
        D.due("61", x.row(0, 0, 61), -2);
        D.due("none yet", x.count(10), 0);
        D.due("below 0", x.row(0, 0, -1), -3);
        D.due("no width below 0", x.row(0, 4, -1), -2);
        D.due("none yet", x.count(10), 0);
        D.due("nothing to write", x.write(0, 0, 5), -6);
        D.due("60", x.row(0, 3, 60), 0);
        D.due("none", x.row(1, 0, 0), 0);
        D.due("two", x.count(10), 2);
        D.due("the last", x.write(0, 59, 5), 0);
        D.due("beyond", x.write(0, 60, 5), -7);
        D.due("below 0", x.write(0, -1, 5), -7);
        D.due("none there", x.write(1, 0, 5), -7);
        D.due("no slot", x.write(4, 0, 5), -2);
        D.due("no slot", x.write(-1, 0, 5), -2);
        D.due("nothing", x.write(2, 0, 5), -6);
        D.due("below 0", x.row(0, 0, -5), -3);
        D.due("the slot stays", x.write(0, 59, 5), 0);
        D.due("another one", x.row(0, 0, 2), 0);
        D.due("of two", x.write(0, 2, 5), -7);
        D.due("still two", x.count(10), 2);
    }

    /** What a row's number is, is told by the deed that it is: 100, leg 0 by speed 0, if it can be done. */
    private static void widths() {
        long[] over = {1L << 8, 1L << 16, 1L << 32};
        LastCloud x = Skies.under(RuleTest.CLIMB_FIRST.replace("at 5", "at 20"));
        for (int width = 0; width < 4; width++) {
            x.row(0, width, 1);
            D.due("all 0: a climb", x.judge(0, 0), 1);
            D.due("without a lift none", x.judge(0, 5), 0);
            for (int i = 0; i < 3; i++) {
                x.write(0, 0, 100 + over[i]);
                D.due("width " + width + " cuts " + over[i], x.judge(0, 5), i >= width ? 1 : 0);
                x.write(0, 0, over[i] - 1);
                D.due("width " + width + " has a sign", x.judge(0, 5), i >= width ? 1 : 0);
            }
            x.write(0, 0, 100);
            D.due("100", x.judge(0, 5), 1);
            x.row(0, width, 1);
            D.due("all 0 again", x.judge(0, 5), 0);
        }
    }

    private static void pastes() {
        LastCloud x = Skies.under(RuleTest.CLIMB_FIRST.replace("at 5", "at 20"));
        x.row(0, 1, 3);
        x.row(1, 1, 2);
        x.row(2, 2, 3);
        D.due("no slot", x.paste(4, 0, 0, 0, 1), -2);
        D.due("no slot", x.paste(0, 0, 4, 0, 1), -2);
        D.due("no slot", x.paste(-1, 0, 0, 0, 1), -2);
        D.due("no slot", x.paste(0, 0, -1, 0, 1), -2);
        D.due("nothing", x.paste(3, 0, 0, 0, 1), -6);
        D.due("nothing", x.paste(0, 0, 3, 0, 1), -6);
        D.due("unlike", x.paste(0, 0, 2, 0, 1), -8);
        D.due("unlike and beyond", x.paste(0, 9, 2, 0, 1), -8);
        int[][] beyond = {{0, 0, 3}, {2, 0, 2}, {0, 1, 2}, {3, 0, 1}, {4, 0, 0}, {0, 3, 0}, {-1, 0, 1}, {0, -1, 1},
            {0, 0, -1}, {Integer.MAX_VALUE, 0, 1}, {1, 0, Integer.MAX_VALUE}, {0, Integer.MIN_VALUE, 0}};
        for (int[] b : beyond) {
            D.due("beyond", x.paste(0, b[0], 1, b[1], b[2]), -7);
        }
        x.write(0, 0, 7);
        x.write(0, 1, 100);
        x.write(0, 2, -1);
        D.due("nothing happened", x.judge(1, 5), 0);
        D.due("none of none", x.paste(0, 3, 1, 2, 0), 0);
        D.due("none came", x.judge(1, 5), 0);
        D.due("two", x.paste(0, 1, 1, 0, 2), 0);
        D.due("they came", x.judge(1, 5), 2);
        D.due("the first stays", x.judge(0, 5), 0);
        D.due("one", x.paste(1, 0, 0, 0, 1), 0);
        D.due("it came: 100, 100", x.judge(0, 5), 1);
    }

    private static void pastesWithin() {
        LastCloud x = Skies.under("place ground 0;place ground 0;leg 0 1 miles 5 air 100 wind 0;speed 60 sink 100;start 0 at 5;");
        x.row(0, 0, 5);
        // 100 100 -1 5 5, one on: 100 100 100 -1 5, as they were
        x.write(0, 0, 100);
        x.write(0, 1, 100);
        x.write(0, 2, -1);
        x.write(0, 3, 5);
        x.write(0, 4, 5);
        D.due("up to the landing", x.judge(0, 0), 3);
        D.due("forward", x.paste(0, 0, 0, 1, 4), 0);
        D.due("as they were", x.judge(0, 0), 4);
        D.due("backward", x.paste(0, 2, 0, 0, 3), 0);
        D.due("as they were: 100 -1 5", x.judge(0, 0), 2);
    }
}
