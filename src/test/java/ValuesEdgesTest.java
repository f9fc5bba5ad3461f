/** The edges that promises 10 to 18 name, sentence by sentence. */
public final class ValuesEdgesTest {
    private static final Class<IllegalArgumentException> ARGUMENT = IllegalArgumentException.class;
    private static final Class<IndexOutOfBoundsException> INDEX = IndexOutOfBoundsException.class;
    private static final Checks c = new Checks("ValuesEdgesTest");

    public static void main(String[] args) {
        roundRefused();
        roundCounts();
        distances();
        excess();
        work();
        maker();
        parent();
        child();
        childOfDecrease();
        root();
        place();
        value();
        valueOfGreatest();
        goal();
        c.end();
    }

    /** Round 1 makes 0 | 1 2 | 3 | 4; round 2 makes 0 1 | 2 3 | 4 5 | 6 | 7. */
    private static CrochetRounds sample() {
        return Checks.told(5, "x1v1x1a1;v3x2;");
    }

    private static CrochetRounds ripped() {
        CrochetRounds x = sample();
        x.rip(1);
        return x;
    }

    private static void roundRefused() {
        c.sentence("Throws IndexOutOfBoundsException if there is no such round (round)");
        c.dueIndex("round of 1", new CrochetRounds(), 1, (x, n) -> x.round(n, 0));
        c.dueIndex("round of 2, one ripped", ripped(), 2, (x, n) -> x.round(n, 0));
        c.dueIndex("round of 40", Checks.rounds(40), 40, (x, n) -> x.round(n, 10));
        c.sentence("what: 0 its total, .. 10. Throws IllegalArgumentException if what is out of range (round)");
        c.dueRange("what of round 0", () -> new CrochetRounds(), 0, 10, (x, n) -> x.round(0, n));
        c.dueRange("what of round 2", () -> sample(), 0, 10, (x, n) -> x.round(2, n));
        c.sentence("If several exceptions apply, the one that is listed first is thrown. (round)");
        CrochetRounds x = sample();
        c.dueThrow("round(3, 11)", x, INDEX, () -> x.round(3, 11));
        c.dueThrow("round(-1, -1)", x, INDEX, () -> x.round(-1, -1));
        c.dueThrow("round(2, 11)", x, ARGUMENT, () -> x.round(2, 11));
    }

    private static void due(CrochetRounds x, int round, int... wants) {
        for (int what = 0; what < wants.length; what++) {
            c.due("round(" + round + ", " + what + ")", x.round(round, what), wants[what]);
        }
    }

    private static void roundCounts() {
        c.sentence("what: 0 its total, 1 its works, 2 singles, 3 increases, 4 decreases, 5 stacked works, 6 1 if it is mirrored,"
            + " otherwise 0, 7 its yarn");
        due(Checks.rounds(1), 0, 6, 6, 6, 0, 0, 0, 1, 60);
        CrochetRounds x = sample();
        due(x, 1, 5, 4, 2, 1, 1, 0, 0, 53);
        due(x, 2, 8, 5, 2, 3, 0, 2, 0, 80);
        due(Checks.told(6, "v6;"), 1, 12, 6, 0, 6, 0, 0, 1, 120);
        due(Checks.told(6, "a3;"), 1, 3, 3, 0, 0, 3, 0, 1, 39);
        due(Checks.told(6, "a3;v3;"), 2, 6, 3, 0, 3, 0, 0, 1, 60);
        due(Checks.told(6, "v6;a6;"), 2, 6, 6, 0, 0, 6, 0, 1, 78);
        CrochetRounds widest = Checks.stitches(60);
        widest.addRound(120);
        due(widest, 4, 120, 60, 0, 60, 0, 24, 1, 1200);
    }

    private static void dueDistances(String told, int greatest, int least) {
        CrochetRounds x = Checks.told(9, told);
        c.due("it fits: " + told, x.value(0), 2);
        c.due("greatest of " + told, x.round(1, 8), greatest);
        c.due("least of " + told, x.round(1, 9), least);
    }

    private static void distances() {
        c.sentence("8 the greatest distance, 9 the least distance (of each shaped work to the next shaped one, round the row;"
            + " 0 with fewer than two shaped works)");
        dueDistances("x9;", 0, 0);
        dueDistances("v1x8;", 0, 0);
        dueDistances("x8v1;", 0, 0);
        dueDistances("x7a1;", 0, 0);
        dueDistances("v2x7;", 8, 1);
        dueDistances("x7v2;", 8, 1);
        dueDistances("v1x7v1;", 8, 1);
        dueDistances("x1v1x3v1x3;", 5, 4);
        dueDistances("v1x2v1x2v1x2;", 3, 3);
        dueDistances("v9;", 1, 1);
        dueDistances("v8x1;", 2, 1);
        dueDistances("x1v8;", 2, 1);
        dueDistances("v1x1v1x2v1x3;", 4, 2);
        dueDistances("x3a1x1v1x2;", 6, 2);
        CrochetRounds x = Checks.stitches(120);
        x.addRound(119);
        int last = x.value(0) - 1;
        c.due("one of 119", x.round(last, 8), 0);
        c.due("in the ring", x.round(0, 9), 0);
    }

    private static void excess() {
        c.sentence("10 its total minus that of round 0 times (round + 1)");
        CrochetRounds x = Checks.rounds(40);
        c.due("of round 0", x.round(0, 10), 0);
        c.due("of round 1", x.round(1, 10), -6);
        c.due("of round 39", x.round(39, 10), -234);
        CrochetRounds y = Checks.stitches(48);
        c.due("of a ruffle", y.round(2, 10), 12);
        c.due("of a dish", y.round(1, 10), 0);
    }

    private static void work() {
        c.sentence("Throws IndexOutOfBoundsException if there is no such round or work");
        c.dueIndex("works of the ring", new CrochetRounds(), 6, (x, n) -> x.work(0, n));
        c.dueIndex("works, fewer than stitches", Checks.told(6, "v6;"), 6, (x, n) -> x.work(1, n));
        c.dueIndex("works, fewer than stitches before", Checks.told(6, "a3;"), 3, (x, n) -> x.work(1, n));
        c.dueIndex("works, as many as there can be", Checks.told(12, "v12;v24;v48;v24x72;x120;"), 120, (x, n) -> x.work(5, n));
        c.dueIndex("rounds", sample(), 3, (x, n) -> x.work(n, 0));
        c.dueIndex("rounds, one ripped", ripped(), 2, (x, n) -> x.work(n, 0));
        c.dueIndex("rounds of 40", Checks.rounds(40), 40, (x, n) -> x.work(n, 5));
        c.sentence("Returns its kind.");
        CrochetRounds x = sample();
        c.due("the first of round 1", x.work(1, 0), 0);
        c.due("an increase", x.work(1, 1), 1);
        c.due("the last of round 1", x.work(1, 3), 2);
        c.due("the last of round 2", x.work(2, 4), 0);
    }

    private interface OfStitch {
        int of(CrochetRounds x, int round, int stitch);
    }

    private static void dueStitchIndex(String what, OfStitch call) {
        c.sentence("Throws IndexOutOfBoundsException if there is no such round or stitch (" + what + ")");
        c.dueIndex("stitches of the ring", new CrochetRounds(), 6, (x, n) -> call.of(x, 0, n));
        c.dueIndex("stitches, more than works", Checks.told(6, "v6;x12;"), 12, (x, n) -> call.of(x, 1, n));
        c.dueIndex("stitches, fewer than before", Checks.told(6, "a3;"), 3, (x, n) -> call.of(x, 1, n));
        c.dueIndex("stitches of the last round", sample(), 8, (x, n) -> call.of(x, 2, n));
        c.dueIndex("120 stitches", Checks.told(12, "v12;v24;v48;v24x72;x120;"), 120, (x, n) -> call.of(x, 4, n));
        c.dueIndex("rounds", sample(), 3, (x, n) -> call.of(x, n, 0));
        c.dueIndex("rounds, one ripped", ripped(), 2, (x, n) -> call.of(x, n, 4));
        c.dueIndex("rounds of 40", Checks.rounds(40), 40, (x, n) -> call.of(x, n, 5));
    }

    private static void dueStitches(CrochetRounds x, int round, String want, OfStitch call) {
        StringBuilder got = new StringBuilder();
        for (int s = 0; s < x.round(round, 0); s++) {
            got.append(s == 0 ? "" : " ").append(call.of(x, round, s));
        }
        c.due("stitches of round " + round, got.toString(), want);
    }

    private static void maker() {
        OfStitch call = (x, r, s) -> x.maker(r, s);
        dueStitchIndex("maker", call);
        c.sentence("Returns the work that made a stitch.");
        dueStitches(sample(), 0, "0 1 2 3 4", call);
        dueStitches(sample(), 1, "0 1 1 2 3", call);
        dueStitches(sample(), 2, "0 0 1 1 2 2 3 4", call);
        dueStitches(Checks.told(6, "a3;"), 1, "0 1 2", call);
        dueStitches(Checks.told(4, "x3v1;"), 1, "0 1 2 3 3", call);
    }

    private static void parent() {
        OfStitch call = (x, r, s) -> x.parent(r, s);
        dueStitchIndex("parent", call);
        c.sentence("Returns the stitch in which the work that made a stitch is worked; for a decrease the first of its two.");
        dueStitches(sample(), 1, "0 1 1 2 3", call);
        dueStitches(sample(), 2, "0 0 1 1 2 2 3 4", call);
        dueStitches(Checks.told(6, "a3;"), 1, "0 2 4", call);
        dueStitches(Checks.told(6, "x1a1x1a1;"), 1, "0 1 3 4", call);
        c.sentence("Returns the stitch of the round before; NONE in round 0.");
        dueStitches(new CrochetRounds(), 0, "-1 -1 -1 -1 -1 -1", call);
        dueStitches(sample(), 0, "-1 -1 -1 -1 -1", call);
        CrochetRounds begun = sample();
        begun.begin(3);
        dueStitches(begun, 0, "-1 -1 -1", call);
    }

    private static void child() {
        OfStitch call = (x, r, s) -> x.child(r, s);
        dueStitchIndex("child", call);
        c.sentence("Returns the stitch; NONE in the last round.");
        dueStitches(new CrochetRounds(), 0, "-1 -1 -1 -1 -1 -1", call);
        dueStitches(sample(), 2, "-1 -1 -1 -1 -1 -1 -1 -1", call);
        dueStitches(ripped(), 1, "-1 -1 -1 -1 -1", call);
        c.due("in round 38 of 40", Checks.rounds(40).child(38, 5), 5);
        c.due("in round 39 of 40", Checks.rounds(40).child(39, 5), -1);
    }

    private static void childOfDecrease() {
        OfStitch call = (x, r, s) -> x.child(r, s);
        c.sentence("Returns the first stitch of the next round that is made by the work that is worked in a stitch"
            + " (or over it and another one).");
        dueStitches(sample(), 0, "0 1 3 4 4", call);
        dueStitches(sample(), 1, "0 2 4 6 7", call);
        dueStitches(Checks.told(6, "v6;"), 0, "0 2 4 6 8 10", call);
        dueStitches(Checks.told(6, "a3;"), 0, "0 0 1 1 2 2", call);
        dueStitches(Checks.told(6, "x1a1v1a1;"), 0, "0 1 1 2 4 4", call);
    }

    private static void root() {
        OfStitch call = (x, r, s) -> x.root(r, s);
        dueStitchIndex("root", call);
        c.sentence("Returns the stitch of round 0 to which the parents of a stitch lead, one after the other.");
        dueStitches(sample(), 1, "0 1 1 2 3", call);
        dueStitches(sample(), 2, "0 0 1 1 1 1 2 3", call);
        dueStitches(Checks.told(12, "a6;a3;"), 2, "0 4 8", call);
        c.due("through 39 rounds", Checks.rounds(40).root(39, 5), 5);
        c.due("the last of 120", Checks.told(12, "v12;v24;v48;x72v24;").root(4, 119), 11);
        c.sentence("Returns the stitch of round 0 (itself in round 0).");
        dueStitches(new CrochetRounds(), 0, "0 1 2 3 4 5", call);
        dueStitches(sample(), 0, "0 1 2 3 4", call);
    }

    private static void place() {
        OfStitch call = (x, r, s) -> x.place(r, s);
        dueStitchIndex("place", call);
        c.sentence("Returns the place of a stitch.");
        dueStitches(sample(), 2, "0 125 250 375 500 625 750 875", call);
        dueStitches(Checks.told(7, "x7;"), 1, "0 142 285 428 571 714 857", call);
        CrochetRounds x = sample();
        x.setSpiral(true);
        dueStitches(x, 0, "0 200 400 600 800", call);
        dueStitches(x, 1, "100 300 500 700 900", call);
        dueStitches(x, 2, "125 250 375 500 625 750 875 0", call);
        c.dueIndex("stitches in a spiral", x, 8, (y, n) -> y.place(2, n));
        x.setSpiral(false);
        dueStitches(x, 1, "0 200 400 600 800", call);
    }

    private static void value() {
        c.sentence("Throws IllegalArgumentException if what is out of range (value)");
        c.dueRange("value", () -> new CrochetRounds(), 0, 7, (x, n) -> x.value(n));
        c.dueRange("value of 40 rounds", () -> Checks.rounds(40), 0, 7, (x, n) -> x.value(n));
        c.sentence("what: 0 the rounds, 1 the total of the last round, 2 all stitches, 3 all yarn, 4 all stacked works, 5 the mirrored"
            + " rounds");
        dueValues(new CrochetRounds(), 1, 6, 6, 60, 0, 1);
        dueValues(sample(), 3, 8, 18, 183, 2, 1);
        dueValues(ripped(), 2, 5, 10, 103, 0, 1);
        dueValues(Checks.rounds(40), 40, 6, 240, 2400, 0, 40);
        dueValues(Checks.told(12, "v12;v24;v48;v24x72;x120;"), 6, 120, 12 + 24 + 48 + 96 + 240, 120 + 240 + 480 + 960 + 1200 + 1200, 24 + 48 + 24, 5);
        c.sentence("7 1 with a spiral, otherwise 0");
        CrochetRounds x = new CrochetRounds();
        c.due("joined", x.value(7), 0);
        x.setSpiral(true);
        c.due("spiral", x.value(7), 1);
    }

    private static void dueValues(CrochetRounds x, int... wants) {
        for (int what = 0; what < wants.length; what++) {
            c.due("value(" + what + ")", x.value(what), wants[what]);
        }
    }

    private static void valueOfGreatest() {
        c.sentence("6 the number of the round with the greatest total (of several the lowest one)");
        c.due("one round", new CrochetRounds().value(6), 0);
        c.due("all alike", Checks.rounds(40).value(6), 0);
        c.due("round 0", Checks.told(6, "a1x4;x4v1;").value(6), 0);
        c.due("the last", Checks.told(6, "x6;x5v1;").value(6), 2);
        c.due("two alike in the middle", Checks.told(6, "v1x5;x7;a1x5;").value(6), 1);
        c.due("two alike with a low between them", Checks.told(6, "v1x5;a1x5;v1x5;").value(6), 1);
        CrochetRounds x = Checks.rounds(39);
        x.addRound(7);
        c.due("round 39", x.value(6), 39);
    }

    private static void goal() {
        c.sentence("Throws IllegalArgumentException if an argument is out of range (goal)");
        for (int shape = 0; shape <= 4; shape++) {
            int now = shape;
            c.dueRange("size: 1 to 20", () -> new CrochetRounds(), 1, 20, (x, n) -> x.goal(now, n, 3));
            c.dueRange("round: 0 to 39", () -> new CrochetRounds(), 0, 39, (x, n) -> x.goal(now, 3, n));
        }
        c.dueRange("shape: 0 to 4", () -> new CrochetRounds(), 0, 4, (x, n) -> x.goal(n, 1, 0));
        c.sentence("Returns the goal of a round in a shape, with the present round 0.");
        CrochetRounds x = Checks.told(6, "v6;v12;");
        c.due("of 6", x.goal(0, 1, 1), 12);
        x.begin(12);
        c.due("of 12", x.goal(0, 1, 1), 24);
        x.undo();
        c.due("of 6 again", x.goal(0, 1, 1), 12);
        c.due("of a round that is not there", x.goal(3, 20, 2), 46);
        c.due("of a round that is there, but not as in the shape", x.goal(4, 1, 2), 6);
    }
}
