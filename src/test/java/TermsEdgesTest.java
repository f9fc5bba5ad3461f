/** The edges that the document names in its Terms, from rounds to places, sentence by sentence. */
public final class TermsEdgesTest {
    private static final Class<IllegalArgumentException> ARGUMENT = IllegalArgumentException.class;
    private static final Class<IllegalStateException> STATE = IllegalStateException.class;
    private static final Class<IndexOutOfBoundsException> INDEX = IndexOutOfBoundsException.class;
    private static final Class<UnsupportedOperationException> UNSUPPORTED = UnsupportedOperationException.class;
    private static final Checks c = new Checks("TermsEdgesTest");

    public static void main(String[] args) {
        uses();
        fewestRounds();
        mostRounds();
        kinds();
        totals();
        roundZero();
        spreadUp();
        spreadDown();
        spreadRows();
        shifts();
        stackedIncreases();
        stackedDecreases();
        bestShift();
        mirroredOrNot();
        mirroredOdd();
        mirroredHalves();
        shapes();
        ball();
        ruffleConeTube();
        goalLimits();
        yarn();
        places();
        spirals();
        c.end();
    }

    private static void uses() {
        c.sentence("An object is used for at most 512 calls after it has been made; what later calls answer is free.");
        CrochetRounds x = new CrochetRounds();
        for (int call = 1; call <= 508; call++) {
            boolean spiral = call % 2 == 0;
            c.due("call " + call, x.setSpiral(!spiral), spiral);
        }
        c.due("call 509", x.addRound(12), 0);
        c.due("call 510", x.root(1, 11), 5);
        c.due("call 511", x.undo(), 3);
        c.due("call 512", x.digest(), new CrochetRounds().digest() + 3);
    }

    private static void fewestRounds() {
        c.sentence("A piece has at least 1 and at most 40 rounds, numbered from 0. (at least 1)");
        CrochetRounds x = new CrochetRounds();
        c.due("rounds", x.value(0), 1);
        c.due("round 0 is there", x.round(0, 0), 6);
        c.dueThrow("rip(1)", x, STATE, () -> x.rip(1));
        c.due("begin", x.begin(5), 1);
        c.due("rounds then", x.value(0), 1);
        CrochetRounds two = Checks.rounds(2);
        c.dueThrow("rip(2) of 2", two, STATE, () -> two.rip(2));
        c.due("rip(1) of 2", two.rip(1), 6);
        c.due("one is left", two.value(0), 1);
    }

    private static void mostRounds() {
        c.sentence("A piece has at least 1 and at most 40 rounds, numbered from 0. (at most 40)");
        dueFortieth("addRound", x -> x.addRound(6));
        dueFortieth("addShifted", x -> x.addShifted(6, 0));
        dueFortieth("addMirrored", x -> x.addMirrored(6));
        dueFortieth("addShape", x -> x.addShape(4, 1, 39));
        dueFortieth("carryOut", x -> carriedOut(x, "x6;x6;"));
        CrochetRounds full = Checks.rounds(40);
        c.due("round 39 is there", full.round(39, 0), 6);
        c.dueThrow("round 40", full, INDEX, () -> full.round(40, 0));
        c.dueThrow("addRound at 40", full, STATE, () -> full.addRound(6));
        c.dueThrow("addShifted at 40", full, STATE, () -> full.addShifted(6, 0));
        c.dueThrow("addMirrored at 40", full, STATE, () -> full.addMirrored(6));
        c.due("addShape at 40", full.addShape(4, 1, 1), 0);
        c.due("carryOut at 40", carriedOut(full, "x6;"), 0);
        c.due("still 40", full.value(0), 40);
    }

    private interface Adding {
        int add(CrochetRounds x);
    }

    private static void dueFortieth(String what, Adding call) {
        CrochetRounds x = Checks.rounds(39);
        call.add(x);
        c.due("rounds, with the 40th by " + what, x.value(0), 40);
    }

    private static int carriedOut(CrochetRounds x, String text) {
        Checks.rewrite(x, text);
        return x.carryOut();
    }

    private static void kinds() {
        c.sentence("0 a single is worked in one stitch of the round before and makes one stitch; 1 an increase is worked in one stitch"
            + " and makes two; 2 a decrease is worked over two stitches and makes one.");
        CrochetRounds x = Checks.told(4, "x1v1a1;");
        c.due("4 stitches are used up", x.value(0), 2);
        c.due("kind of x", x.work(1, 0), 0);
        c.due("kind of v", x.work(1, 1), 1);
        c.due("kind of a", x.work(1, 2), 2);
        c.due("4 stitches are made", x.value(1), 4);
        c.sentence("The works of a round use up the stitches of the round before in their order, exactly.");
        c.due("one stitch is left over", Checks.told(5, "x1v1a1;").value(0), 1);
        c.due("one stitch is missing", Checks.told(3, "x1v1a1;").value(0), 1);
        c.due("the first work is in the first stitch", x.parent(1, 0), 0);
        c.due("the last work is over the last two", x.child(0, 3), 3);
    }

    private static void totals() {
        c.sentence("The stitches of a round are numbered from 0 as they are made; their number is its total, 3 to 120.");
        CrochetRounds x = Checks.stitches(4);
        c.dueThrow("addRound(2)", x, ARGUMENT, () -> x.addRound(2));
        c.due("2 stitches by a text", carriedOut(x, "a2;"), 0);
        c.due("3 stitches by a text", carriedOut(x, "x2a1;"), 1);
        c.due("3 stitches", x.value(1), 3);
        CrochetRounds y = Checks.stitches(61);
        c.dueThrow("addRound(121)", y, ARGUMENT, () -> y.addRound(121));
        c.due("121 stitches by a text", carriedOut(y, "v60x1;"), 0);
        c.due("120 stitches by a text", carriedOut(y, "v59x2;"), 1);
        c.due("120 stitches", y.value(1), 120);
        c.due("stitch 0", y.maker(y.value(0) - 1, 0), 0);
        c.due("stitch 119", y.maker(y.value(0) - 1, 119), 60);
    }

    private static void roundZero() {
        c.sentence("Round 0 consists of singles that are worked into a ring, 3 to 12 of them, initially 6.");
        CrochetRounds x = new CrochetRounds();
        c.dueRow(x, 0, "xxxxxx");
        c.dueThrow("2", x, ARGUMENT, () -> x.begin(2));
        x.begin(3);
        c.dueRow(x, 0, "xxx");
        x.begin(12);
        c.dueRow(x, 0, "xxxxxxxxxxxx");
        c.dueThrow("13", x, ARGUMENT, () -> x.begin(13));
    }

    /** What a goal is behind a total, by all the calls that ask whether it is possible. */
    private static void duePossible(int n, int t, boolean possible) {
        CrochetRounds x = Checks.stitches(n);
        String asked = t + " behind " + n;
        c.due("stacks of " + asked, x.stacks(t, 0) != CrochetRounds.NONE, possible);
        String want = possible ? "nothing" : "UnsupportedOperationException";
        c.due("addRound of " + asked, Checks.thrown(() -> x.addRound(t)), want);
        c.due("total of " + asked, x.value(1), possible ? t : n);
        CrochetRounds y = Checks.stitches(n);
        c.due("addShifted of " + asked, Checks.thrown(() -> y.addShifted(t, 119)), want);
        if (!possible) {
            c.due("addMirrored of " + asked, Checks.thrown(() -> y.addMirrored(t)), want);
        }
    }

    private static void spreadUp() {
        c.sentence("for t from n on, there are n works, of which d = t - n are increases; this is possible if d is at most n.");
        duePossible(3, 3, true);
        duePossible(3, 6, true);
        duePossible(3, 7, false);
        duePossible(6, 12, true);
        duePossible(6, 13, false);
        duePossible(59, 118, true);
        duePossible(59, 119, false);
        duePossible(60, 120, true);
        duePossible(120, 120, true);
        CrochetRounds x = Checks.stitches(6);
        x.addShifted(6, 0);
        c.dueRow(x, 1, "xxxxxx");
        x.addShifted(7, 0);
        c.dueRow(x, 2, "xxxxxv");
        x.addShifted(14, 0);
        c.dueRow(x, 3, "vvvvvvv");
    }

    private static void spreadDown() {
        c.sentence("For t below n, there are t works, of which d = n - t are decreases; this is possible if 2 * d is at most n.");
        duePossible(6, 3, true);
        duePossible(8, 4, true);
        duePossible(8, 3, false);
        duePossible(7, 4, true);
        duePossible(7, 3, false);
        duePossible(5, 3, true);
        duePossible(120, 60, true);
        duePossible(120, 59, false);
        duePossible(119, 60, true);
        duePossible(119, 59, false);
        CrochetRounds x = Checks.stitches(7);
        x.addShifted(6, 0);
        c.dueRow(x, x.value(0) - 1, "xxxxxa");
        x.addShifted(3, 0);
        c.dueRow(x, x.value(0) - 1, "aaa");
    }

    private static void dueSpread(int n, int t, String want) {
        CrochetRounds x = Checks.stitches(n);
        x.addShifted(t, 0);
        c.due("row from " + n + " to " + t, Checks.row(x, x.value(0) - 1), want);
    }

    private static void spreadRows() {
        c.sentence("With m works, d of them shaped, work i of the unshifted row is shaped if (i + 1) * d / m is greater than i * d / m;"
            + " the others are singles.");
        dueSpread(6, 6, "xxxxxx");
        dueSpread(6, 7, "xxxxxv");
        dueSpread(6, 8, "xxvxxv");
        dueSpread(6, 9, "xvxvxv");
        dueSpread(6, 10, "xvvxvv");
        dueSpread(6, 11, "xvvvvv");
        dueSpread(6, 12, "vvvvvv");
        dueSpread(6, 5, "xxxxa");
        dueSpread(6, 4, "xaxa");
        dueSpread(6, 3, "aaa");
        dueSpread(7, 4, "xaaa");
        dueSpread(7, 5, "xxaxa");
        dueSpread(7, 10, "xxvxvxv");
        dueSpread(119, 120, "x".repeat(118) + "v");
        dueSpread(120, 119, "x".repeat(118) + "a");
        dueSpread(120, 61, "x" + "a".repeat(29) + "x" + "a".repeat(30));
    }

    private static void dueShifted(int n, int t, int shift, String want) {
        CrochetRounds x = Checks.stitches(n);
        x.addShifted(t, shift);
        c.due("row from " + n + " to " + t + " shifted by " + shift, Checks.row(x, x.value(0) - 1), want);
    }

    private static void shifts() {
        c.sentence("Work i of the row with shift s, 0 to m - 1, is work (i + s) % m of the unshifted row.");
        dueShifted(6, 7, 0, "xxxxxv");
        dueShifted(6, 7, 1, "xxxxvx");
        dueShifted(6, 7, 5, "vxxxxx");
        dueShifted(7, 5, 1, "xaxax");
        dueShifted(7, 5, 4, "axxax");
        dueShifted(119, 120, 118, "v" + "x".repeat(118));
    }

    /** A ring and a round make the stitches; the second round is worked in them. */
    private static void dueStacked(int ring, String made, String worked, int want) {
        CrochetRounds x = Checks.told(ring, made + worked);
        c.due("both rounds fit: " + made + worked, x.value(0), 3);
        c.due("stacked in " + made + worked, x.round(2, 5), want);
    }

    private static void stackedIncreases() {
        c.sentence("An increase is stacked if the stitch in which it is worked was made by an increase;");
        dueStacked(5, "x1v1x3;", "x1v1x4;", 1);
        dueStacked(5, "x1v1x3;", "x2v1x3;", 1);
        dueStacked(5, "x1v1x3;", "v1x5;", 0);
        dueStacked(5, "x1v1x3;", "x3v1x2;", 0);
        dueStacked(5, "x1v1x3;", "v6;", 2);
        dueStacked(5, "v1x3v1;", "v1x5v1;", 2);
        dueStacked(6, "x1a1x3;", "x1v1x3;", 0);
        c.due("in the ring", new CrochetRounds().round(0, 5), 0);
    }

    private static void stackedDecreases() {
        c.sentence("a decrease is stacked if one of its two stitches, or both, was made by a decrease.");
        dueStacked(6, "x1a1x3;", "x1a1x2;", 1);
        dueStacked(6, "x1a1x3;", "a1x3;", 1);
        dueStacked(6, "x1a1x3;", "x2a1x1;", 0);
        dueStacked(6, "a2x2;", "a1x2;", 1);
        dueStacked(6, "x4a1;", "x3a1;", 1);
        dueStacked(12, "a6;", "a3;", 3);
        dueStacked(5, "x1v1x3;", "x1a1x3;", 0);
        dueStacked(6, "x1a1x3;", "x5;", 0);
    }

    private static void dueBest(int ring, String told, int goal, int shift, int stacked) {
        CrochetRounds x = Checks.told(ring, told);
        c.due("best shift to " + goal + " behind " + told, x.addRound(goal), shift);
        c.due("stacked works of it", x.round(x.value(0) - 1, 5), stacked);
    }

    private static void bestShift() {
        c.sentence("The best shift is the one with the fewest stacked works, of several the least one (0 if d is 0).");
        dueBest(6, "x5v1;", 8, 2, 0);
        dueBest(6, "x1v5;", 12, 10, 0);
        dueBest(6, "x3v3;", 11, 2, 1);
        dueBest(6, "v6;", 18, 0, 6);
        dueBest(6, "v6;", 13, 0, 1);
        dueBest(6, "x4a1;", 4, 1, 0);
        dueBest(6, "a1x4;", 4, 0, 0);
        dueBest(6, "a3;", 3, 0, 0);
        dueBest(6, "v6;", 12, 0, 0);
        dueBest(6, "", 11, 0, 0);
    }

    private static void dueMirrored(CrochetRounds x, int want) {
        c.due("mirrored: " + Checks.row(x, x.value(0) - 1), x.round(x.value(0) - 1, 6), want);
    }

    private static void mirroredOrNot() {
        c.sentence("A round is mirrored, however it was made, if work i and work m - 1 - i are of the same kind for every i.");
        dueMirrored(new CrochetRounds(), 1);
        dueMirrored(Checks.told(6, "v1x4v1;"), 1);
        dueMirrored(Checks.told(5, "x2v1x2;"), 1);
        dueMirrored(Checks.told(5, "v1x4;"), 0);
        dueMirrored(Checks.told(5, "x1v1x3;"), 0);
        dueMirrored(Checks.told(6, "x2v1x3;"), 0);
        dueMirrored(Checks.told(5, "v1x2a1;"), 0);
        dueMirrored(Checks.told(7, "a1x3a1;"), 1);
        CrochetRounds x = new CrochetRounds();
        x.addShifted(8, 0);
        dueMirrored(x, 0);
        x.undo();
        x.addShifted(8, 1);
        dueMirrored(x, 1);
    }

    private static void dueMirror(int n, int t, String want) {
        CrochetRounds x = Checks.stitches(n);
        c.due("throws from " + n + " to " + t, Checks.thrown(() -> x.addMirrored(t)), "nothing");
        c.due("mirrored row from " + n + " to " + t, Checks.row(x, x.value(0) - 1), want);
        c.due("it is mirrored", x.round(x.value(0) - 1, 6), 1);
    }

    private static void dueNoMirror(int n, int t) {
        CrochetRounds x = Checks.stitches(n);
        c.isTrue("the goal is possible: " + t + " behind " + n, x.stacks(t, 0) >= 0);
        c.dueThrow("addMirrored to " + t + " behind " + n, x, UNSUPPORTED, () -> x.addMirrored(t));
    }

    private static void mirroredOdd() {
        c.sentence("if d is odd, m must be odd, too, and the middle work is shaped.");
        dueMirror(3, 4, "xvx");
        dueMirror(3, 6, "vvv");
        dueMirror(4, 3, "xax");
        dueMirror(6, 3, "aaa");
        dueMirror(9, 12, "xxxvvvxxx");
        dueNoMirror(4, 5);
        dueNoMirror(4, 7);
        dueNoMirror(6, 11);
        dueNoMirror(5, 4);
        dueNoMirror(7, 4);
        dueNoMirror(60, 119);
        dueNoMirror(119, 118);
        dueNoMirror(119, 60);
    }

    private static void mirroredHalves() {
        c.sentence("In the first half, the works 0 to m / 2 - 1, there are d / 2 shaped ones, spread as in an unshifted row of m / 2 works;"
            + " the second half is their mirror image.");
        dueMirror(4, 6, "xvvx");
        dueMirror(4, 8, "vvvv");
        dueMirror(10, 14, "xxvxvvxvxx");
        dueMirror(11, 15, "xxvxvxvxvxx");
        dueMirror(12, 8, "xaxaaxax");
        dueMirror(8, 4, "aaaa");
        dueMirror(5, 3, "axa");
        c.sentence("If d is even and m odd, the middle work is a single.");
        dueMirror(3, 3, "xxx");
        dueMirror(3, 5, "vxv");
        dueMirror(9, 17, "vvvvxvvvv");
        dueMirror(9, 7, "xxaxaxx");
    }

    private static void dueGoal(int first, int shape, int size, int round, int want) {
        CrochetRounds x = new CrochetRounds();
        x.begin(first);
        c.due("goal(" + shape + ", " + size + ", " + round + ") of " + first, x.goal(shape, size, round), want);
    }

    private static void shapes() {
        c.sentence("With f the total of round 0, the goal of round r in a shape of a size s, 1 to 20, is: 0 dish: f * (r + 1);");
        dueGoal(3, 0, 1, 0, 3);
        dueGoal(12, 0, 20, 0, 12);
        dueGoal(3, 0, 1, 38, 117);
        dueGoal(3, 0, 20, 39, 120);
        dueGoal(6, 0, 5, 18, 114);
        dueGoal(6, 0, 5, 19, 120);
        CrochetRounds x = Checks.stitches(48);
        c.due("f is not the total of the last round", x.goal(0, 1, 0), 12);
    }

    private static void ball() {
        c.sentence("1 ball: f times the least one of r + 1, s and 3 * s - r;");
        dueGoal(6, 1, 4, 0, 6);
        dueGoal(6, 1, 4, 2, 18);
        dueGoal(6, 1, 4, 3, 24);
        dueGoal(6, 1, 4, 4, 24);
        dueGoal(6, 1, 4, 8, 24);
        dueGoal(6, 1, 4, 9, 18);
        dueGoal(6, 1, 4, 11, 6);
        dueGoal(6, 1, 4, 12, 3);
        dueGoal(6, 1, 4, 13, 3);
        dueGoal(6, 1, 1, 0, 6);
        dueGoal(6, 1, 1, 2, 6);
        dueGoal(6, 1, 1, 3, 3);
        dueGoal(12, 1, 1, 39, 3);
        dueGoal(3, 1, 20, 39, 60);
        dueGoal(3, 1, 19, 39, 54);
        dueGoal(3, 1, 14, 39, 9);
        dueGoal(3, 1, 13, 39, 3);
    }

    private static void ruffleConeTube() {
        c.sentence("2 ruffle: twice the goal of round r - 1 (f for r = 0);");
        dueGoal(7, 2, 1, 0, 7);
        dueGoal(7, 2, 20, 1, 14);
        dueGoal(7, 2, 1, 4, 112);
        dueGoal(7, 2, 1, 5, 120);
        dueGoal(3, 2, 1, 39, 120);
        dueGoal(12, 2, 1, 39, 120);
        c.sentence("3 cone: f + r * s;");
        dueGoal(6, 3, 20, 0, 6);
        dueGoal(6, 3, 1, 39, 45);
        dueGoal(10, 3, 10, 11, 120);
        dueGoal(12, 3, 20, 5, 112);
        c.sentence("4 tube: f times the lesser one of r + 1 and s.");
        dueGoal(6, 4, 1, 0, 6);
        dueGoal(6, 4, 1, 39, 6);
        dueGoal(6, 4, 5, 3, 24);
        dueGoal(6, 4, 5, 4, 30);
        dueGoal(6, 4, 5, 5, 30);
        dueGoal(6, 4, 20, 19, 120);
        dueGoal(3, 4, 20, 39, 60);
    }

    private static void goalLimits() {
        c.sentence("A goal above 120 counts as 120, one below 3 as 3.");
        dueGoal(11, 0, 1, 10, 120);
        dueGoal(12, 0, 1, 9, 120);
        dueGoal(12, 0, 1, 39, 120);
        dueGoal(12, 1, 20, 39, 120);
        dueGoal(4, 2, 1, 5, 120);
        dueGoal(11, 3, 10, 11, 120);
        dueGoal(12, 3, 20, 39, 120);
        dueGoal(7, 4, 20, 17, 120);
        dueGoal(7, 4, 17, 39, 119);
        dueGoal(3, 1, 1, 2, 3);
        dueGoal(3, 1, 1, 3, 3);
        dueGoal(3, 1, 1, 4, 3);
        CrochetRounds x = Checks.stitches(60);
        c.due("rounds of a ruffle from 60 stitches on", x.addShape(2, 1, 3), 3);
        c.dueTotals(x, "12 24 48 60 120 120 120");
    }

    private static void yarn() {
        c.sentence("Each kind of work takes a length of yarn, in millimeters, 1 to 60, initially 10 for a single, 20 for an increase,"
            + " 13 for a decrease.");
        CrochetRounds x = Checks.told(4, "x1v1a1;");
        c.due("at first", x.round(1, 7), 43);
        x.setYarn(0, 1);
        x.setYarn(1, 1);
        x.setYarn(2, 1);
        c.due("with the least lengths", x.round(1, 7), 3);
        c.sentence("The yarn of a round is counted with the lengths as they are now.");
        x.setYarn(2, 60);
        c.due("of a round made before", x.round(1, 7), 62);
        x.setYarn(0, 60);
        c.due("of round 0", x.round(0, 7), 240);
        c.due("of all", x.value(3), 361);
        x.undo();
        c.due("of a round when undone", x.round(0, 7), 4);
    }

    private static void duePlace(CrochetRounds x, int round, int stitch, int want) {
        c.due("place(" + round + ", " + stitch + ")", x.place(round, stitch), want);
    }

    private static void places() {
        c.sentence("The place of a stitch in a turn is told in thousandths: with joined rounds (initially) stitch * 1000 / total;");
        CrochetRounds x = Checks.stitches(120);
        int last = x.value(0) - 1;
        duePlace(x, last, 0, 0);
        duePlace(x, last, 1, 8);
        duePlace(x, last, 119, 991);
        duePlace(x, last, 60, 500);
        CrochetRounds y = Checks.stitches(3);
        y.addShape(4, 1, 39);
        duePlace(y, 0, 2, 666);
        duePlace(y, 39, 0, 0);
        duePlace(y, 39, 1, 333);
        duePlace(y, 39, 2, 666);
    }

    private static void spirals() {
        c.sentence("with a spiral ((2 * stitch + round) * 1000 / (2 * total)) % 1000.");
        CrochetRounds x = Checks.stitches(3);
        x.addShape(4, 1, 39);
        x.setSpiral(true);
        duePlace(x, 0, 0, 0);
        duePlace(x, 0, 2, 666);
        duePlace(x, 1, 0, 166);
        duePlace(x, 1, 2, 833);
        duePlace(x, 2, 2, 0);
        duePlace(x, 3, 1, 833);
        duePlace(x, 4, 1, 0);
        duePlace(x, 6, 0, 0);
        duePlace(x, 39, 0, 500);
        duePlace(x, 39, 2, 166);
        CrochetRounds y = Checks.stitches(120);
        y.setSpiral(true);
        int last = y.value(0) - 1;
        c.due("the last round", last, 4);
        duePlace(y, last, 117, 991);
        duePlace(y, last, 118, 0);
        duePlace(y, last, 119, 8);
    }
}
