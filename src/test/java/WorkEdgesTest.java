/** The edges that promises 1 to 9 name, sentence by sentence. */
public final class WorkEdgesTest {
    private static final Class<IllegalArgumentException> ARGUMENT = IllegalArgumentException.class;
    private static final Class<IllegalStateException> STATE = IllegalStateException.class;
    private static final Class<UnsupportedOperationException> UNSUPPORTED = UnsupportedOperationException.class;
    private static final Checks c = new Checks("WorkEdgesTest");

    public static void main(String[] args) {
        newObject();
        begin();
        addRoundShift();
        addRoundRefused();
        addShiftedShift();
        addShiftedRefused();
        addMirroredStacks();
        addMirroredRefused();
        addShapeRange();
        addShapeGoals();
        addShapeEnds();
        rip();
        setYarn();
        setSpiral();
        c.end();
    }

    private static void newObject() {
        c.sentence("Creates a piece of one round of 6 singles, with joined rounds.");
        CrochetRounds x = new CrochetRounds();
        c.due("rounds", x.value(0), 1);
        c.dueRow(x, 0, "xxxxxx");
        c.due("total", x.round(0, 0), 6);
        c.due("spiral", x.setSpiral(true), false);
    }

    private static void begin() {
        c.sentence("stitches: 3 to 12. Throws IllegalArgumentException if stitches is out of range");
        c.dueRange("begin", () -> Checks.rounds(2), 3, 12, (x, n) -> x.begin(n));
        c.sentence("Begins a piece of one round; yarn lengths and the way of joining stay.");
        CrochetRounds x = Checks.told(6, "v6;x10a1;");
        x.setYarn(0, 1);
        x.setYarn(1, 2);
        x.setYarn(2, 3);
        x.setSpiral(true);
        x.begin(4);
        c.dueTotals(x, "4");
        c.dueRow(x, 0, "xxxx");
        c.due("the way of joining", x.setSpiral(true), true);
        c.due("yarn of a single", x.setYarn(0, 1), 1);
        c.due("yarn of an increase", x.setYarn(1, 2), 2);
        c.due("yarn of a decrease", x.setYarn(2, 3), 3);
        c.due("round 1 is gone", Checks.thrown(() -> x.round(1, 0)), "IndexOutOfBoundsException");
        c.due("nothing is a child of round 0", x.child(0, 0), -1);
        c.sentence("Returns the rounds that the piece had.");
        c.due("of one round", new CrochetRounds().begin(3), 1);
        c.due("of 40 rounds", Checks.rounds(40).begin(3), 40);
    }

    private static void addRoundShift() {
        c.sentence("Adds a round that reaches a goal, with the best shift. Returns the shift.");
        CrochetRounds x = Checks.told(6, "x5v1;");
        c.due("shift to 8", x.addRound(8), 2);
        c.dueRow(x, 2, "xxxxvxx");
        CrochetRounds y = Checks.told(6, "x1v5;");
        c.due("the last shift", y.addRound(12), 10);
        c.dueRow(y, 2, "vxxxxxxxxxx");
        c.due("0 of no shaped work", y.addRound(12), 0);
        c.dueRow(y, 3, "xxxxxxxxxxxx");
        CrochetRounds z = Checks.told(8, "x5a1x1;");
        c.due("a decrease away from a decrease", z.addRound(6), 2);
        c.dueRow(z, 2, "xxxaxx");
    }

    private static void addRoundRefused() {
        c.sentence("goal: a goal, 3 to 120. Throws IllegalArgumentException if goal is out of range");
        c.due("3", Checks.stitches(3).addRound(3), 0);
        c.due("120", Checks.stitches(60).addRound(120), 0);
        c.dueRefused("addRound", Checks.stitches(3), (x, n) -> x.addRound(n), Integer.MIN_VALUE, -3, 0, 2);
        c.dueRefused("addRound", Checks.stitches(120), (x, n) -> x.addRound(n), 121, Integer.MAX_VALUE);
        c.sentence("Throws IllegalStateException if there are 40 rounds (addRound)");
        CrochetRounds full = Checks.rounds(40);
        c.dueThrow("at 40", full, STATE, () -> full.addRound(6));
        c.dueThrow("at 40, not possible either", full, STATE, () -> full.addRound(13));
        c.dueThrow("at 40, out of range as well", full, ARGUMENT, () -> full.addRound(2));
        c.due("at 39", Checks.rounds(39).addRound(6), 0);
        c.sentence("Throws UnsupportedOperationException if the goal is not possible (addRound)");
        CrochetRounds x = Checks.stitches(7);
        c.dueThrow("15 behind 7", x, UNSUPPORTED, () -> x.addRound(15));
        c.dueThrow("120 behind 7", x, UNSUPPORTED, () -> x.addRound(120));
        c.dueThrow("3 behind 7", x, UNSUPPORTED, () -> x.addRound(3));
        c.due("14 behind 7", x.addRound(14), 0);
        c.due("7 behind 14", x.addRound(7), 0);
        c.due("4 behind 7", Checks.stitches(7).addRound(4), 0);
    }

    private static String rowShifted(int n, int goal, int shift) {
        CrochetRounds x = Checks.stitches(n);
        x.addShifted(goal, shift);
        return Checks.row(x, x.value(0) - 1);
    }

    private static void addShiftedShift() {
        c.sentence("shift: 0 to 119; the rest of its division by the number of works is taken");
        c.due("5 of 6 works", rowShifted(6, 7, 5), "vxxxxx");
        c.due("6 of 6 works", rowShifted(6, 7, 6), "xxxxxv");
        c.due("7 of 6 works", rowShifted(6, 7, 7), "xxxxvx");
        c.due("119 of 6 works", rowShifted(6, 7, 119), "vxxxxx");
        c.due("4 of 5 works behind 7 stitches", rowShifted(7, 5, 4), "axxax");
        c.due("5 of 5 works behind 7 stitches", rowShifted(7, 5, 5), "xxaxa");
        c.due("7 of 5 works behind 7 stitches", rowShifted(7, 5, 7), "axaxx");
        c.due("119 of 119 works", rowShifted(119, 120, 119), "x".repeat(118) + "v");
        c.due("119 of 120 works", rowShifted(120, 120, 119), "x".repeat(120));
        c.sentence("Returns the stacked works of the round. (addShifted)");
        CrochetRounds x = Checks.told(6, "x5v1;");
        c.due("in the last stitch", x.addShifted(8, 0), 1);
        x.undo();
        c.due("in the last stitch but one", x.addShifted(8, 8), 1);
        x.undo();
        c.due("in the stitch before them", x.addShifted(8, 2), 0);
        c.due("all of them", Checks.told(6, "v6;").addShifted(24, 119), 12);
        c.due("none is shaped", Checks.told(6, "v6;").addShifted(12, 119), 0);
    }

    private static void addShiftedRefused() {
        c.sentence("Throws IllegalArgumentException if an argument is out of range (addShifted)");
        c.dueRange("shift", () -> Checks.stitches(6), 0, 119, (x, n) -> x.addShifted(12, n));
        c.dueRefused("goal", Checks.stitches(6), (x, n) -> x.addShifted(n, 0), Integer.MIN_VALUE, 2, 121, Integer.MAX_VALUE);
        c.due("goal 3", Checks.stitches(6).addShifted(3, 0), 0);
        c.due("goal 120", Checks.stitches(120).addShifted(120, 0), 0);
        c.sentence("Throws IllegalStateException if there are 40 rounds (addShifted)");
        CrochetRounds full = Checks.rounds(40);
        c.dueThrow("at 40", full, STATE, () -> full.addShifted(6, 0));
        c.dueThrow("at 40, not possible either", full, STATE, () -> full.addShifted(13, 0));
        c.dueThrow("at 40, goal out of range as well", full, ARGUMENT, () -> full.addShifted(121, 0));
        c.dueThrow("at 40, shift out of range as well", full, ARGUMENT, () -> full.addShifted(6, 120));
        c.due("at 39", Checks.rounds(39).addShifted(6, 0), 0);
        c.sentence("Throws UnsupportedOperationException if the goal is not possible (addShifted)");
        CrochetRounds x = Checks.stitches(7);
        c.dueThrow("15 behind 7", x, UNSUPPORTED, () -> x.addShifted(15, 0));
        c.dueThrow("3 behind 7", x, UNSUPPORTED, () -> x.addShifted(3, 0));
        c.dueThrow("not possible, shift out of range as well", x, ARGUMENT, () -> x.addShifted(15, -1));
        c.due("14 behind 7", x.addShifted(14, 0), 0);
        c.due("4 behind 7", Checks.stitches(7).addShifted(4, 0), 0);
    }

    private static void addMirroredStacks() {
        c.sentence("Adds a mirrored round that reaches a goal. Returns the stacked works of the round.");
        CrochetRounds x = Checks.told(5, "x1v1x3;");
        c.due("xvvvvx", x.addMirrored(10), 2);
        c.dueRow(x, 2, "xvvvvx");
        x.undo();
        c.due("xxvvxx", x.addMirrored(8), 1);
        x.undo();
        c.due("vvvvvv", x.addMirrored(12), 2);
        x.undo();
        c.due("xxxxxx", x.addMirrored(6), 0);
        c.due("aaa behind singles", x.addMirrored(3), 0);
        CrochetRounds y = Checks.told(12, "x2a4x2;");
        c.due("xaax over 1 2 and 3 4", y.addMirrored(6), 2);
        c.dueRow(y, 2, "xxaaxx");
    }

    private static void addMirroredRefused() {
        c.sentence("Throws IllegalArgumentException if goal is out of range (addMirrored)");
        c.dueRefused("addMirrored", Checks.stitches(3), (x, n) -> x.addMirrored(n), Integer.MIN_VALUE, 2, 121, Integer.MAX_VALUE);
        c.due("goal 3", Checks.stitches(3).addMirrored(3), 0);
        c.due("goal 120", Checks.stitches(60).addMirrored(120), 24);
        c.sentence("Throws IllegalStateException if there are 40 rounds (addMirrored)");
        CrochetRounds full = Checks.rounds(40);
        c.dueThrow("at 40", full, STATE, () -> full.addMirrored(6));
        c.dueThrow("at 40, not possible either", full, STATE, () -> full.addMirrored(13));
        c.dueThrow("at 40, not mirrored either", full, STATE, () -> full.addMirrored(7));
        c.dueThrow("at 40, out of range as well", full, ARGUMENT, () -> full.addMirrored(121));
        c.due("at 39", Checks.rounds(39).addMirrored(6), 0);
        c.sentence("Throws UnsupportedOperationException if the goal is not possible, or not with a mirrored round");
        CrochetRounds x = Checks.stitches(6);
        c.dueThrow("13 behind 6", x, UNSUPPORTED, () -> x.addMirrored(13));
        c.dueThrow("14 behind 6", x, UNSUPPORTED, () -> x.addMirrored(14));
        c.dueThrow("7 behind 6", x, UNSUPPORTED, () -> x.addMirrored(7));
        c.dueThrow("11 behind 6", x, UNSUPPORTED, () -> x.addMirrored(11));
        c.due("12 behind 6", x.addMirrored(12), 0);
        c.dueThrow("5 behind 12", x, UNSUPPORTED, () -> x.addMirrored(5));
        c.due("6 behind 12", x.addMirrored(6), 0);
        c.due("5 behind 6", x.addMirrored(5), 1);
        c.dueThrow("4 behind 5", x, UNSUPPORTED, () -> x.addMirrored(4));
    }

    private static void addShapeRange() {
        c.sentence("Throws IllegalArgumentException if an argument is out of range (addShape)");
        c.dueRange("shape: 0 to 4", () -> new CrochetRounds(), 0, 4, (x, n) -> x.addShape(n, 1, 1));
        c.dueRange("size: 1 to 20", () -> new CrochetRounds(), 1, 20, (x, n) -> x.addShape(4, n, 1));
        c.dueRange("rounds: 1 to 39", () -> new CrochetRounds(), 1, 39, (x, n) -> x.addShape(4, 1, n));
        c.dueRefused("at 40 rounds", Checks.rounds(40), (x, n) -> x.addShape(4, 1, n), 0, 40);
    }

    private static void addShapeGoals() {
        c.sentence("Adds rounds of a shape, each as by addRound() with the goal of its number (the rounds that there are count)");
        CrochetRounds x = Checks.stitches(6);
        CrochetRounds y = Checks.stitches(6);
        c.due("rounds of a cone of 1", x.addShape(3, 1, 4), 4);
        for (int round = 1; round <= 4; round++) {
            y.addRound(6 + round);
        }
        for (int round = 1; round <= 4; round++) {
            c.dueRow(x, round, Checks.row(y, round));
        }
        c.dueTotals(x, "6 7 8 9 10");
        c.due("one more", x.addShape(3, 1, 1), 1);
        c.dueTotals(x, "6 7 8 9 10 11");
        CrochetRounds z = Checks.rounds(3);
        c.due("the goal of round 3, not of round 1", z.addShape(3, 2, 1), 1);
        c.dueTotals(z, "6 6 6 12");
        CrochetRounds w = Checks.rounds(3);
        c.due("the goal of round 3 is not possible behind 6", w.addShape(0, 1, 1), 0);
    }

    private static void addShapeEnds() {
        c.sentence("up to the first one that is not possible, or up to 40 rounds.");
        CrochetRounds x = new CrochetRounds();
        x.begin(12);
        c.due("a ball of 3 up to round 8", x.addShape(1, 3, 39), 8);
        c.dueTotals(x, "12 24 36 36 36 36 36 24 12");
        c.due("12 to 3 is not possible", x.addShape(1, 3, 1), 0);
        CrochetRounds y = Checks.stitches(6);
        c.due("all that there is room for", y.addShape(4, 1, 39), 39);
        c.due("40 rounds", y.value(0), 40);
        c.due("none at 40", y.addShape(4, 1, 39), 0);
        CrochetRounds z = Checks.rounds(38);
        c.due("two at 38", z.addShape(4, 1, 39), 2);
        c.due("one at 39", Checks.rounds(39).addShape(4, 1, 2), 1);
        c.due("the last goal, of round 39", Checks.rounds(39).addShape(3, 1, 1), 0);
        c.sentence("Undoable (one saved state). (addShape)");
        CrochetRounds w = new CrochetRounds();
        c.due("five rounds", w.addShape(4, 3, 5), 5);
        c.due("one state of five rounds", w.undo(), 0);
        c.due("round 0 is left", w.value(0), 1);
        c.due("no round", w.addShape(3, 20, 5), 0);
        c.due("one state of no round", w.undo(), 0);
    }

    private static void rip() {
        c.sentence("Takes off the last rounds. Returns the total of the round that is the last one then.");
        CrochetRounds x = new CrochetRounds();
        x.addShape(0, 1, 4);
        c.due("rip(1)", x.rip(1), 24);
        c.dueTotals(x, "6 12 18 24");
        c.due("all but round 0", x.rip(3), 6);
        c.dueTotals(x, "6");
        c.due("39 of 40", Checks.rounds(40).rip(39), 6);
        c.sentence("Throws IllegalArgumentException if rounds is not positive");
        c.dueRefused("rip", Checks.rounds(3), (y, n) -> y.rip(n), 0, -1, Integer.MIN_VALUE);
        c.dueRefused("rip of one round", new CrochetRounds(), (y, n) -> y.rip(n), 0, -1, Integer.MIN_VALUE);
        c.sentence("Throws IllegalStateException if none would be left");
        CrochetRounds three = Checks.rounds(3);
        c.dueThrow("rip(3) of 3", three, STATE, () -> three.rip(3));
        c.dueThrow("rip(4) of 3", three, STATE, () -> three.rip(4));
        c.dueThrow("rip(MAX) of 3", three, STATE, () -> three.rip(Integer.MAX_VALUE));
        c.due("rip(2) of 3", three.rip(2), 6);
        c.dueThrow("rip(1) of 1", three, STATE, () -> three.rip(1));
    }

    private static void setYarn() {
        c.sentence("kind: 0 to 2, length: 1 to 60. Throws IllegalArgumentException if an argument is out of range");
        c.dueRange("kind", () -> new CrochetRounds(), 0, 2, (x, n) -> x.setYarn(n, 5));
        for (int kind = 0; kind <= 2; kind++) {
            int kindNow = kind;
            c.dueRange("length of " + kind, () -> new CrochetRounds(), 1, 60, (x, n) -> x.setYarn(kindNow, n));
        }
        c.sentence("Sets the yarn of a kind of work. Returns the previous length.");
        CrochetRounds x = Checks.told(4, "x1v1a1;");
        c.due("single", x.setYarn(0, 1), 10);
        c.due("counted", x.round(1, 7), 34);
        c.due("increase", x.setYarn(1, 60), 20);
        c.due("counted", x.round(1, 7), 74);
        c.due("decrease", x.setYarn(2, 2), 13);
        c.due("counted", x.round(1, 7), 63);
        c.due("again", x.setYarn(0, 60), 1);
        c.due("again the same", x.setYarn(0, 60), 60);
        c.due("no other kind", x.setYarn(1, 1), 60);
    }

    private static void setSpiral() {
        c.sentence("Sets how rounds are joined. Returns whether it was a spiral.");
        CrochetRounds x = new CrochetRounds();
        c.due("joined stays joined", x.setSpiral(false), false);
        c.due("value", x.value(7), 0);
        c.due("joined to spiral", x.setSpiral(true), false);
        c.due("value", x.value(7), 1);
        c.due("spiral stays spiral", x.setSpiral(true), true);
        c.due("value", x.value(7), 1);
        c.due("spiral to joined", x.setSpiral(false), true);
        c.due("value", x.value(7), 0);
    }
}
