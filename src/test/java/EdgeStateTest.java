/** The boundary cases that promises 47 to 52, and Term I of the SLOTS, name: a test for each sentence that names one. */
public final class EdgeStateTest {
    private static final Due D = new Due("EdgeStateTest");
    private static final int MAX = Integer.MAX_VALUE;
    private static final int MIN = Integer.MIN_VALUE;
    /** By seed 5 the lift is not there: of all deeds the leg (100) and a landing (-1) alone can be done. */
    private static final String SKY = "place ground 0;place ground 0 home;leg 0 1 miles 5 air 100 wind 0;speed 60 sink 100;"
        + "lift 0 chance 50 up 200;start 0 at 9;";

    public static void main(String[] args) {
        noOtherCount();
        countsAtTheirEnds();
        noSuchImage();
        anImageOfNothing();
        imagesAreTheirOwn();
        worthsGoBackToo();
        backLeavesAllElse();
        noSuchRow();
        rowsBelowZero();
        rowsOfNoneAndSixty();
        anotherRow();
        noSuchSlotToWrite();
        nothingToWrite();
        noSuchNumber();
        cutToItsWidth();
        noSuchSlotToPaste();
        nothingToPaste();
        unlikeWidths();
        beyondTheirRows();
        pastedNone();
        pastedWhole();
        asTheyWere();
        D.finish();
    }

    // ---- promises 47 to 49 ----

    /** count: "NONE for others." */
    private static void noOtherCount() {
        for (LastCloud x : new LastCloud[] {new LastCloud(), Skies.under(SKY)}) {
            for (int none : new int[] {-1, 11, 12, MAX, MIN}) {
                D.due("count(" + none + ")", x.count(none), -1);
            }
        }
    }

    /** Each count at its least and its greatest: "6 the PLACE of the START (NONE)". */
    private static void countsAtTheirEnds() {
        StringBuilder text = new StringBuilder();
        for (int i = 0; i < 8; i++) {
            text.append("place ground 0;lift ").append(i).append(" chance 0 up 0;");
        }
        for (int i = 0; i < 10; i++) {
            text.append("leg 0 1 miles 1 air 0 wind 0;").append(i < 6 ? "speed 20 sink 1;" : "");
        }
        LastCloud x = Skies.under(text + "last 47;ceiling 60;start 7 at 0;");
        for (int i = 0; i < 20; i++) {
            x.sight(0, 0);
        }
        for (int i = 0; i < 80; i++) {
            x.feed(0, 0, 0, 0, 0);
        }
        for (int i = 0; i < 4; i++) {
            x.row(i, 0, 0);
        }
        int[] most = {8, 10, 8, 6, 35, 20, 7, 1600, 47, 60, 4};
        int[] least = {0, 0, 0, 0, 2, 0, -1, 0, 1, 31, 4};
        for (int what = 0; what < 11; what++) {
            D.due("most " + what, x.count(what), most[what]);
        }
        x.end(0);
        Skies.tell(x, "last 1;ceiling 31;");
        for (int what = 0; what < 11; what++) {
            D.due("least " + what, x.count(what), least[what]);
        }
        D.due("a start at place 0", Skies.under("place ground 0;start 0 at 0;").count(6), 0);
    }

    /** keep, back: "-2: no such k." */
    private static void noSuchImage() {
        LastCloud x = Skies.under(SKY);
        for (int none : new int[] {-1, 3, 4, MAX, MIN}) {
            D.due("keep(" + none + ")", x.keep(none), -2);
            D.due("back(" + none + ")", x.back(none), -2);
        }
        for (int k = 0; k < 3; k++) {
            D.due("keep(" + k + ")", x.keep(k), 0);
            D.due("back(" + k + ")", x.back(k), 0);
        }
    }

    /** back: "-6: it has nothing", and nothing happens; an IMAGE of no SKY is one. */
    private static void anImageOfNothing() {
        LastCloud x = Skies.under(SKY);
        x.sight(0, 0);
        for (int k = 0; k < 3; k++) {
            D.due("back(" + k + ")", x.back(k), -6);
        }
        D.due("the sky stays", x.count(4), 6);
        D.due("the sights stay", x.count(5), 1);
        LastCloud none = new LastCloud();
        none.keep(2);
        Skies.tell(none, SKY);
        D.due("back to no sky", none.back(2), 0);
        D.due("no places", none.count(0), 0);
        D.due("no lines", none.count(4), 0);
    }

    /** keep: "IMAGE k .. keeps SKY and SIGHTS": what comes later does not change it; it may be kept anew. */
    private static void imagesAreTheirOwn() {
        LastCloud x = Skies.under(SKY);
        // the leg loses nothing: the start's worth is 1,000, whatever the lift
        x.keep(0);
        x.sight(0, 0);
        x.keep(1);
        Skies.tell(x, "place ground 5;start 0 at 5;worth home 0 period 0 out 7;");
        x.keep(2);
        D.due("its start", x.start(0), -7);
        D.due("back(0)", x.back(0), 0);
        D.due("its start", x.start(0), 1000);
        D.due("no sights", x.count(5), 0);
        D.due("its chance", x.chance(0), 50);
        D.due("back(1)", x.back(1), 0);
        D.due("a sight", x.count(5), 1);
        D.due("its chance", x.chance(0), 100);
        x.unsee(1);
        x.sight(0, 1);
        D.due("back(1) once more", x.back(1), 0);
        D.due("its chance", x.chance(0), 100);
        D.due("its start", x.start(0), 1000);
        D.due("back(2)", x.back(2), 0);
        D.due("its start", x.start(0), -7);
        D.due("its edge of the ground", x.reach(0, 5, 0, false), 5);
        D.due("below it", x.reach(0, 4, 0, false), -2);
        D.due("no home", x.soon(), -1);
        x.keep(1);
        x.back(0);
        D.due("soon", x.soon(), 2);
        x.back(1);
        D.due("kept anew", x.count(4), 3);
    }

    /** "These are as IMAGE k has them": all that is told by them too, SIGHT by SIGHT, for every RULE. */
    private static void worthsGoBackToo() {
        // 70 by a climb, -40 without: 15; 9,997 or 0 by rule 2
        LastCloud x = Skies.under("place ground 3;place ground 5 home;leg 0 1 miles 5 air 0 wind 0;speed 60 sink 100;"
            + "lift 0 chance 50 up 200;last 6;worth home 100 period 10 out 40;start 0 at 9;");
        int[] half = {15, 15, 4998, 15};
        int[] all = {70, 70, 9997, 70};
        int[] none = {-40, -40, 0, -40};
        x.keep(0);
        for (int rule = 0; rule < 4; rule++) {
            D.due("half", x.start(rule), half[rule]);
            x.sight(0, 0);
            D.due("all", x.start(rule), all[rule]);
            x.keep(1);
            x.sight(0, 1);
            D.due("none", x.start(rule), none[rule]);
            x.back(1);
            D.due("all again", x.start(rule), all[rule]);
            x.unsee(1);
            D.due("half again", x.start(rule), half[rule]);
            x.back(1);
            D.due("all once more", x.start(rule), all[rule]);
            x.back(0);
            D.due("half once more", x.start(rule), half[rule]);
        }
    }

    /** back: "(the latest flight stays)"; the TAPE, the SLOTS and the latest FAULT are none of an IMAGE. */
    private static void backLeavesAllElse() {
        LastCloud x = Skies.under(SKY);
        x.keep(0);
        x.fly(0, 0);
        int deeds = x.fly(0, 5);
        x.row(0, 0, 1);
        Skies.tell(x, "turn 1000;");
        x.feed(0, 0, 0, 0, 0);
        x.back(0);
        D.due("deeds", deeds, 2);
        D.due("its first deed", x.flown(0, 0), 100);
        D.due("its end", x.landed(0), 1);
        D.due("the slot", x.count(10), 1);
        D.due("the tape", x.count(7), 20);
        D.due("the fault", x.fault(1), 5);
    }

    // ---- promise 50 ----

    /** row: "-2: there is no such SLOT or WIDTH (0 .. 3), or n is above 60". */
    private static void noSuchRow() {
        LastCloud x = new LastCloud();
        for (int none : new int[] {-1, 4, MAX, MIN}) {
            D.due("slot " + none, x.row(none, 0, 1), -2);
            D.due("width " + none, x.row(0, none, 1), -2);
            D.due("slot " + none + " below 0", x.row(none, 0, -1), -2);
            D.due("width " + none + " below 0", x.row(0, none, -1), -2);
        }
        D.due("61", x.row(0, 0, 61), -2);
        D.due("the most that n can be", x.row(0, 0, MAX), -2);
        D.due("none has a row", x.count(10), 0);
        for (int slot = 0; slot < 4; slot++) {
            D.due("slot " + slot, x.row(slot, 3 - slot, 60), 0);
        }
        D.due("all have one", x.count(10), 4);
    }

    /** row: "-3, and the SLOT stays: n is below 0." */
    private static void rowsBelowZero() {
        LastCloud x = new LastCloud();
        D.due("-1", x.row(0, 0, -1), -3);
        D.due("it has nothing still", x.write(0, 0, 0), -6);
        x.row(0, 0, 2);
        for (int n : new int[] {-1, -60, MIN}) {
            D.due("row(0, 3, " + n + ")", x.row(0, 3, n), -3);
            D.due("two numbers", x.write(0, 1, 0), 0);
            D.due("not three", x.write(0, 2, 0), -7);
        }
        x.row(1, 0, 2);
        D.due("its width stays", x.paste(0, 0, 1, 0, 2), 0);
    }

    /** "at most 60, or nothing": a row of none is not nothing. */
    private static void rowsOfNoneAndSixty() {
        LastCloud x = Skies.under(SKY);
        for (int width = 0; width < 4; width++) {
            D.due("none", x.row(width, width, 0), 0);
            D.due("it has a row", x.count(10), width + 1);
            D.due("no number 0", x.write(width, 0, 0), -7);
            D.due("nothing to do", x.judge(width, 0), 0);
            D.due("60", x.row(width, width, 60), 0);
            D.due("the last", x.write(width, 59, 0), 0);
            D.due("no number 60", x.write(width, 60, 0), -7);
        }
    }

    /** row: "all 0 (in place of another one)". */
    private static void anotherRow() {
        LastCloud x = Skies.under(SKY);
        x.row(0, 0, 60);
        for (int i = 0; i < 60; i++) {
            x.write(0, i, 100);
        }
        D.due("20 legs in 40 periods", x.judge(0, 5), 20);
        x.row(0, 1, 2);
        D.due("all 0: no lift", x.judge(0, 5), 0);
        D.due("all 0: two climbs", x.judge(0, 0), 2);
        x.row(0, 0, 60);
        D.due("nothing comes back: four climbs to the ceiling", x.judge(0, 0), 4);
        D.due("one slot", x.count(10), 1);
    }

    // ---- promise 51 ----

    /** write: "-2: there is no such SLOT". */
    private static void noSuchSlotToWrite() {
        LastCloud x = new LastCloud();
        for (int none : new int[] {-1, 4, MAX, MIN}) {
            D.due("slot " + none, x.write(none, 0, 0), -2);
            D.due("slot " + none + ", no number", x.write(none, -1, 0), -2);
        }
    }

    /** write: "-6: it has nothing". */
    private static void nothingToWrite() {
        LastCloud x = new LastCloud();
        for (int slot = 0; slot < 4; slot++) {
            D.due("slot " + slot, x.write(slot, 0, 0), -6);
            D.due("slot " + slot + ", no number", x.write(slot, 60, 0), -6);
        }
    }

    /** write: "-7: there is no such number." */
    private static void noSuchNumber() {
        LastCloud x = Skies.under(SKY);
        x.row(0, 0, 2);
        for (int none : new int[] {-1, 2, 59, 60, MAX, MIN}) {
            D.due("number " + none, x.write(0, none, -1), -7);
        }
        D.due("none is written", x.judge(0, 0), 2);
        D.due("the first", x.write(0, 0, 100), 0);
        D.due("the last", x.write(0, 1, -1), 0);
        D.due("both are written", x.judge(0, 5), 2);
    }

    /** 2: the number is 100 once it is written; 1: it is -1; 0: another one. */
    private static int told(int width, long v) {
        LastCloud x = Skies.under(SKY);
        x.row(0, width, 2);
        x.write(0, 0, v);
        x.write(0, 1, -1);
        return x.judge(0, 5);
    }

    /** write: "is v, cut to its WIDTH", "numbers of 1, 2, 4 or 8 bytes, all with a sign". */
    private static void cutToItsWidth() {
        long[] rounds = {1L << 8, 1L << 16, 1L << 32};
        for (int width = 0; width < 4; width++) {
            D.due("100", told(width, 100), 2);
            D.due("-1", told(width, -1), 1);
            D.due("0", told(width, 0), 0);
            for (int i = 0; i < 3; i++) {
                boolean comesRound = i >= width;
                D.due("100 and a round", told(width, 100 + rounds[i]), comesRound ? 2 : 0);
                D.due("100 less a round", told(width, 100 - rounds[i]), comesRound ? 2 : 0);
                D.due("a round less 1", told(width, rounds[i] - 1), comesRound ? 1 : 0);
                D.due("-1 less a round", told(width, -1 - rounds[i]), comesRound ? 1 : 0);
                // half of a round is above the greatest of its own width, and many rounds of a lesser one
                D.due("half a round less 1", told(width, rounds[i] / 2 - 1), i > width ? 1 : 0);
                D.due("100 and half a round", told(width, rounds[i] / 2 + 100), i > width ? 2 : 0);
            }
            D.due("the greatest", told(width, Long.MAX_VALUE), width < 3 ? 1 : 0);
            D.due("the least", told(width, Long.MIN_VALUE), 0);
            D.due("the least and 100", told(width, Long.MIN_VALUE + 100), width < 3 ? 2 : 0);
        }
    }

    // ---- promise 52 ----

    /** paste: "-2: there is no such SLOT", ahead of all else. */
    private static void noSuchSlotToPaste() {
        LastCloud x = new LastCloud();
        x.row(0, 0, 1);
        for (int none : new int[] {-1, 4, MAX, MIN}) {
            D.due("from " + none, x.paste(none, 0, 0, 0, 1), -2);
            D.due("to " + none, x.paste(0, 0, none, 0, 1), -2);
            D.due("from nothing to " + none, x.paste(1, -1, none, -1, -1), -2);
        }
    }

    /** paste: "-6: one has nothing", ahead of places beyond. */
    private static void nothingToPaste() {
        LastCloud x = new LastCloud();
        D.due("both", x.paste(0, 0, 1, 0, 0), -6);
        D.due("its own", x.paste(2, 0, 2, 0, 0), -6);
        x.row(0, 0, 1);
        D.due("the other", x.paste(0, 0, 1, 0, 1), -6);
        D.due("the one", x.paste(1, 0, 0, 0, 1), -6);
        D.due("beyond too", x.paste(0, 9, 1, -1, -1), -6);
    }

    /** paste: "-8: they are not of one WIDTH", ahead of places beyond. */
    private static void unlikeWidths() {
        LastCloud x = new LastCloud();
        for (int width = 0; width < 4; width++) {
            x.row(width, width, 1);
        }
        for (int from = 0; from < 4; from++) {
            for (int to = 0; to < 4; to++) {
                D.due("from " + from + " to " + to, x.paste(from, 0, to, 0, 1), from == to ? 0 : -8);
                D.due("beyond, from " + from + " to " + to, x.paste(from, 2, to, 0, 1), from == to ? -7 : -8);
            }
        }
    }

    /** paste: "-7, and nothing happens: some are beyond their rows (.. n is 0: a place above how many it has), or a place
     * or n is below 0." */
    private static void beyondTheirRows() {
        LastCloud x = Skies.under(SKY);
        x.row(0, 0, 3);
        x.row(1, 0, 2);
        x.write(0, 0, -1);
        x.write(0, 1, -1);
        x.write(0, 2, -1);
        int[][] beyond = {{0, 0, 3}, {1, 0, 3}, {2, 0, 2}, {3, 0, 1}, {0, 1, 2}, {0, 2, 1}, {4, 0, 0}, {0, 3, 0}, {MAX, 0, 0},
            {0, MAX, 0}, {-1, 0, 1}, {0, -1, 1}, {-1, 0, 0}, {0, -1, 0}, {0, 0, -1}, {3, 2, -1}, {MAX, 0, MAX}, {1, 1, MAX},
            {MIN, 0, MIN}, {0, MIN, 1}, {0, 0, MIN}, {1, 0, MAX}, {MIN, 0, MAX}};
        for (int[] b : beyond) {
            D.due("from " + b[0] + " to " + b[1] + ", " + b[2], x.paste(0, b[0], 1, b[1], b[2]), -7);
        }
        D.due("nothing happened: two climbs", x.judge(1, 0), 2);
    }

    /** "(also where n is 0: a place above how many it has)": a place that is how many it has is none such. */
    private static void pastedNone() {
        LastCloud x = Skies.under(SKY);
        x.row(0, 0, 3);
        x.row(1, 0, 2);
        x.row(2, 0, 0);
        D.due("behind the last of both", x.paste(0, 3, 1, 2, 0), 0);
        D.due("of a row of none", x.paste(2, 0, 0, 3, 0), 0);
        D.due("to a row of none", x.paste(0, 3, 2, 0, 0), 0);
        D.due("within one of none", x.paste(2, 0, 2, 0, 0), 0);
        D.due("one of a row of none", x.paste(2, 0, 0, 0, 1), -7);
        D.due("beyond a row of none", x.paste(2, 1, 0, 0, 0), -7);
        D.due("none came", x.judge(1, 0), 2);
    }

    /** paste: "So many numbers .. are put to another one's": all of 60, up to the last. */
    private static void pastedWhole() {
        LastCloud x = Skies.under(SKY);
        x.row(0, 1, 60);
        x.row(1, 1, 60);
        for (int i = 0; i < 60; i++) {
            x.write(0, i, i == 19 ? -1 : 100);
        }
        D.due("all", x.paste(0, 0, 1, 0, 60), 0);
        D.due("19 legs and a landing", x.judge(1, 5), 20);
        D.due("the last to the first", x.paste(0, 19, 1, 0, 1), 0);
        D.due("a landing", x.judge(1, 5), 1);
        D.due("one beyond", x.paste(0, 1, 1, 0, 60), -7);
        D.due("to the last place", x.paste(0, 0, 1, 59, 1), 0);
        D.due("one beyond", x.paste(0, 0, 1, 59, 2), -7);
    }

    /** paste: "(or its own) .., as they were": forward and backward over themselves. */
    private static void asTheyWere() {
        LastCloud x = Skies.under(SKY);
        x.row(0, 2, 6);
        // 100 100 -1 5 5 5
        x.write(0, 0, 100);
        x.write(0, 1, 100);
        x.write(0, 2, -1);
        for (int i = 3; i < 6; i++) {
            x.write(0, i, 5);
        }
        D.due("two legs and a landing", x.judge(0, 5), 3);
        D.due("two on", x.paste(0, 0, 0, 2, 4), 0);
        // 100 100 100 100 -1 5
        D.due("four legs and a landing", x.judge(0, 5), 5);
        D.due("three back", x.paste(0, 3, 0, 0, 3), 0);
        // 100 -1 5 100 -1 5
        D.due("a leg and a landing", x.judge(0, 5), 2);
        D.due("where they are", x.paste(0, 0, 0, 0, 6), 0);
        D.due("as they were", x.judge(0, 5), 2);
    }
}
