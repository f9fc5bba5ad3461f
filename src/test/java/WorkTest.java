/** Promises 1 to 9: a new object and the calls that change the piece. */
public final class WorkTest {
    private static final Class<IllegalArgumentException> ARGUMENT = IllegalArgumentException.class;
    private static final Class<IllegalStateException> STATE = IllegalStateException.class;
    private static final Class<UnsupportedOperationException> UNSUPPORTED = UnsupportedOperationException.class;
    private static final Checks c = new Checks("WorkTest");

    public static void main(String[] args) {
        newObject();
        begin();
        addRound();
        addShifted();
        addMirrored();
        addShape();
        rip();
        setYarn();
        setSpiral();
        c.end();
    }

    private static CrochetRounds full() {
        CrochetRounds x = new CrochetRounds();
        x.addShape(4, 1, 39);
        return x;
    }

    private static void newObject() {
        CrochetRounds x = new CrochetRounds();
        c.due("NONE", CrochetRounds.NONE, -1);
        c.due("new: totals", Checks.totals(x), "6");
        c.due("new: row", Checks.row(x, 0), "xxxxxx");
        c.due("new: spiral", x.value(7), 0);
        c.due("new: yarn", x.value(3), 60);
        c.due("new: text", x.clearText(), 0);
        c.dueThrow("new: undo", x, STATE, () -> x.undo());
        c.due("new: yarn of a single", x.setYarn(0, 1), 10);
        c.due("new: yarn of an increase", x.setYarn(1, 1), 20);
        c.due("new: yarn of a decrease", x.setYarn(2, 1), 13);
    }

    private static void begin() {
        CrochetRounds x = new CrochetRounds();
        x.addRound(12);
        x.setYarn(0, 7);
        x.setSpiral(true);
        c.due("begin(3)", x.begin(3), 2);
        c.due("begin(3): row", Checks.row(x, 0), "xxx");
        c.due("begin: rounds", x.value(0), 1);
        c.due("begin: yarn stays", x.value(3), 21);
        c.due("begin: joining stays", x.value(7), 1);
        c.due("begin(12)", x.begin(12), 1);
        c.due("begin(12): total", x.value(1), 12);
        c.dueThrow("begin(2)", x, ARGUMENT, () -> x.begin(2));
        c.dueThrow("begin(13)", x, ARGUMENT, () -> x.begin(13));
        c.dueThrow("begin(MIN)", x, ARGUMENT, () -> x.begin(Integer.MIN_VALUE));
        c.due("begin: undo", x.undo(), 3);
        c.due("begin: undone", x.value(1), 3);
    }

    private static void addRound() {
        CrochetRounds x = new CrochetRounds();
        c.due("addRound(12)", x.addRound(12), 0);
        c.due("addRound(12): row", Checks.row(x, 1), "vvvvvv");
        c.due("addRound(18)", x.addRound(18), 0);
        c.due("addRound(18): row", Checks.row(x, 2), "xvxvxvxvxvxv");
        c.due("addRound(24)", x.addRound(24), 2);
        c.due("addRound(24): row", Checks.row(x, 3), "vxxvxxvxxvxxvxxvxx");
        c.due("addRound(24) again", x.addRound(24), 0);
        c.due("addRound(24) again: row", Checks.row(x, 4), "x".repeat(24));
        c.due("addRound(12) down", x.addRound(12), 0);
        c.due("addRound(12) down: row", Checks.row(x, 5), "a".repeat(12));
        c.due("addRound(11)", x.addRound(11), 0);
        c.due("addRound(11): row", Checks.row(x, 6), "xxxxxxxxxxa");
        c.dueThrow("addRound(5) from 11", x, UNSUPPORTED, () -> x.addRound(5));
        c.dueThrow("addRound(23) from 11", x, UNSUPPORTED, () -> x.addRound(23));
        c.due("addRound(6) from 11", x.addRound(6), 1);
        c.due("addRound(6) from 11: row", Checks.row(x, 7), "aaaaax");
        addRoundBestShift();
        addRoundWrong(x);
    }

    private static void addRoundBestShift() {
        CrochetRounds x = new CrochetRounds();
        x.addRound(4);
        c.due("x a x a: row", Checks.row(x, 1), "xaxa");
        c.due("addRound(3) from xaxa", x.addRound(3), 0);
        c.due("addRound(3) from xaxa: row", Checks.row(x, 2), "xxa");
        CrochetRounds y = Checks.told(6, "x3v3;");
        c.due("addRound(10) behind x3v3", y.addRound(10), 6);
        c.due("addRound(10) behind x3v3: row", Checks.row(y, 2), "xxvxxxxxx");
    }

    private static void addRoundWrong(CrochetRounds x) {
        c.dueThrow("addRound(2)", x, ARGUMENT, () -> x.addRound(2));
        c.dueThrow("addRound(121)", x, ARGUMENT, () -> x.addRound(121));
        CrochetRounds y = full();
        c.due("40 rounds", y.value(0), 40);
        c.dueThrow("addRound(6) at 40", y, STATE, () -> y.addRound(6));
        c.dueThrow("addRound(120) at 40", y, STATE, () -> y.addRound(120));
        c.dueThrow("addRound(121) at 40", y, ARGUMENT, () -> y.addRound(121));
        y.rip(1);
        c.due("addRound(6) at 39", y.addRound(6), 0);
        c.due("rounds then", y.value(0), 40);
        CrochetRounds z = Checks.told(12, "v12;v24;x48;");
        c.due("addRound(60) from 48", z.addRound(60), 0);
        c.due("addRound(120) from 60", z.addRound(120), 0);
        c.due("total 120", z.value(1), 120);
        c.dueThrow("addRound(59) from 120", z, UNSUPPORTED, () -> z.addRound(59));
        c.due("addRound(60) from 120", z.addRound(60), 0);
    }

    private static void addShifted() {
        CrochetRounds x = new CrochetRounds();
        c.due("addShifted(9, 1)", x.addShifted(9, 1), 0);
        c.due("addShifted(9, 1): row", Checks.row(x, 1), "vxvxvx");
        c.due("addShifted(12, 0)", x.addShifted(12, 0), 0);
        c.due("addShifted(12, 0): row", Checks.row(x, 2), "xxvxxvxxv");
        x.undo();
        c.due("addShifted(12, 119)", x.addShifted(12, 119), 3);
        c.due("addShifted(12, 119): shift 2", Checks.row(x, 2), "vxxvxxvxx");
        x.undo();
        c.due("addShifted(6, 7)", x.addShifted(6, 7), 0);
        c.due("addShifted(6, 7): shift 1", Checks.row(x, 2), "axaxax");
        c.dueThrow("addShifted(2, 0)", x, ARGUMENT, () -> x.addShifted(2, 0));
        c.dueThrow("addShifted(121, 0)", x, ARGUMENT, () -> x.addShifted(121, 0));
        c.dueThrow("addShifted(6, -1)", x, ARGUMENT, () -> x.addShifted(6, -1));
        c.dueThrow("addShifted(6, 120)", x, ARGUMENT, () -> x.addShifted(6, 120));
        c.dueThrow("addShifted(13, 0)", x, UNSUPPORTED, () -> x.addShifted(13, 0));
        c.due("addShifted(3, 0)", x.addShifted(3, 0), 3);
        CrochetRounds y = full();
        c.dueThrow("addShifted(6, 0) at 40", y, STATE, () -> y.addShifted(6, 0));
        c.dueThrow("addShifted(99, 0) at 40", y, STATE, () -> y.addShifted(99, 0));
        c.dueThrow("addShifted(6, 120) at 40", y, ARGUMENT, () -> y.addShifted(6, 120));
        addShiftedStackedDecreases();
    }

    /** Either of the two stitches of a decrease can stack it, and both count once. */
    private static void addShiftedStackedDecreases() {
        CrochetRounds x = Checks.told(12, "x1a1x8a0001;");
        c.due("a0001 is refused", x.value(0), 1);
        x = Checks.told(12, "x1a1a1x2a1x3;");
        c.due("x1a1a1x2a1x3: total", x.value(1), 9);
        c.due("a over 1 2 and 7 8", x.stacks(7, 0), 0);
        c.due("a over 0 1, 2 3 and so on", x.addShifted(6, 0), 2);
        c.due("row", Checks.row(x, 2), "xaxaxa");
        CrochetRounds y = Checks.told(12, "x2a1x2a1x4;");
        c.due("one by its first stitch, one by its second", y.addShifted(5, 0), 2);
        c.due("row of 5", Checks.row(y, 2), "aaaaa");
    }

    private static void addMirrored() {
        CrochetRounds x = new CrochetRounds();
        c.due("addMirrored(10)", x.addMirrored(10), 0);
        c.due("addMirrored(10): row", Checks.row(x, 1), "xvvvvx");
        x.undo();
        c.due("addMirrored(8)", x.addMirrored(8), 0);
        c.due("addMirrored(8): row", Checks.row(x, 1), "xxvvxx");
        x.undo();
        c.dueThrow("addMirrored(9): odd in even", x, UNSUPPORTED, () -> x.addMirrored(9));
        c.dueThrow("addMirrored(13)", x, UNSUPPORTED, () -> x.addMirrored(13));
        c.dueThrow("addMirrored(2)", x, ARGUMENT, () -> x.addMirrored(2));
        c.dueThrow("addMirrored(121)", x, ARGUMENT, () -> x.addMirrored(121));
        c.due("addMirrored(5)", x.addMirrored(5), 0);
        c.due("addMirrored(5): row", Checks.row(x, 1), "xxaxx");
        c.due("addMirrored(7) from 5", x.addMirrored(7), 0);
        c.due("addMirrored(7): middle single", Checks.row(x, 2), "xvxvx");
        c.due("addMirrored(10) from 7", x.addMirrored(10), 2);
        c.due("addMirrored(10) from 7: row", Checks.row(x, 3), "xxvvvxx");
        c.due("addMirrored(10) from 10", x.addMirrored(10), 0);
        c.due("addMirrored(10) from 10: row", Checks.row(x, 4), "xxxxxxxxxx");
        c.dueThrow("addMirrored(4) from 10", x, UNSUPPORTED, () -> x.addMirrored(4));
        c.due("addMirrored(5) from 10", x.addMirrored(5), 0);
        c.due("addMirrored(5) from 10: row", Checks.row(x, 5), "aaaaa");
        CrochetRounds y = full();
        c.dueThrow("addMirrored(6) at 40", y, STATE, () -> y.addMirrored(6));
        c.dueThrow("addMirrored(9) at 40", y, STATE, () -> y.addMirrored(9));
    }

    private static void addShape() {
        CrochetRounds x = new CrochetRounds();
        c.due("dish", x.addShape(0, 1, 4), 4);
        c.due("dish: totals", Checks.totals(x), "6 12 18 24 30");
        c.due("dish: shift kept as by addRound", Checks.row(x, 3), "vxxvxxvxxvxxvxxvxx");
        c.due("dish goes on with the rounds that there are", x.addShape(0, 20, 2), 2);
        c.due("dish: totals then", Checks.totals(x), "6 12 18 24 30 36 42");
        c.due("one saved state for each", x.undo(), 1);
        c.due("undone", Checks.totals(x), "6 12 18 24 30");
        x.begin(6);
        c.due("ball of 3", x.addShape(1, 3, 39), 39);
        c.due("ball: totals", Checks.totals(x).startsWith("6 12 18 18 18 18 18 12 6 3 3 3"), true);
        x.begin(6);
        c.due("ruffle", x.addShape(2, 1, 39), 39);
        c.due("ruffle: totals", Checks.totals(x).startsWith("6 12 24 48 96 120 120"), true);
        x.begin(5);
        c.due("cone up to the first that is not possible", x.addShape(3, 6, 39), 0);
        c.due("cone of 5", x.addShape(3, 5, 39), 39);
        c.due("cone: totals", Checks.totals(x).startsWith("5 10 15 20"), true);
        c.due("cone: at 40", x.addShape(3, 5, 1), 0);
        c.due("saved though nothing is added", x.undo(), 3);
        x.begin(6);
        c.due("tube", x.addShape(4, 3, 5), 5);
        c.due("tube: totals", Checks.totals(x), "6 12 18 18 18 18");
        c.due("ball behind a tube stops", x.addShape(1, 1, 3), 0);
        addShapeWrong(x);
    }

    private static void addShapeWrong(CrochetRounds x) {
        c.dueThrow("addShape(-1)", x, ARGUMENT, () -> x.addShape(-1, 1, 1));
        c.dueThrow("addShape(5)", x, ARGUMENT, () -> x.addShape(5, 1, 1));
        c.dueThrow("addShape size 0", x, ARGUMENT, () -> x.addShape(0, 0, 1));
        c.dueThrow("addShape size 21", x, ARGUMENT, () -> x.addShape(0, 21, 1));
        c.dueThrow("addShape rounds 0", x, ARGUMENT, () -> x.addShape(0, 1, 0));
        c.dueThrow("addShape rounds 40", x, ARGUMENT, () -> x.addShape(0, 1, 40));
    }

    private static void rip() {
        CrochetRounds x = new CrochetRounds();
        x.addShape(0, 1, 5);
        c.due("rip(2)", x.rip(2), 24);
        c.due("rip(2): totals", Checks.totals(x), "6 12 18 24");
        c.dueThrow("rip(4)", x, STATE, () -> x.rip(4));
        c.dueThrow("rip(MAX)", x, STATE, () -> x.rip(Integer.MAX_VALUE));
        c.dueThrow("rip(0)", x, ARGUMENT, () -> x.rip(0));
        c.dueThrow("rip(-1)", x, ARGUMENT, () -> x.rip(-1));
        c.due("rip(3)", x.rip(3), 6);
        c.dueThrow("rip(1) of one", x, STATE, () -> x.rip(1));
        c.due("rip: undo", x.undo(), 2);
        c.due("rip: undone", Checks.totals(x), "6 12 18 24");
        c.due("rip: undo more", x.undo(), 1);
        c.due("rip: undone more", Checks.row(x, 5).length(), 30);
    }

    private static void setYarn() {
        CrochetRounds x = Checks.told(6, "x2v2a1;");
        c.due("yarn of x2v2a1", x.round(1, 7), 73);
        c.due("setYarn(0, 60)", x.setYarn(0, 60), 10);
        c.due("setYarn(1, 1)", x.setYarn(1, 1), 20);
        c.due("setYarn(2, 5)", x.setYarn(2, 5), 13);
        c.due("setYarn(2, 5) again", x.setYarn(2, 5), 5);
        c.due("counted as lengths are now", x.round(1, 7), 127);
        c.dueThrow("setYarn(-1, 5)", x, ARGUMENT, () -> x.setYarn(-1, 5));
        c.dueThrow("setYarn(3, 5)", x, ARGUMENT, () -> x.setYarn(3, 5));
        c.dueThrow("setYarn(0, 0)", x, ARGUMENT, () -> x.setYarn(0, 0));
        c.dueThrow("setYarn(0, 61)", x, ARGUMENT, () -> x.setYarn(0, 61));
        c.due("setYarn: undo of no change", x.undo(), 3);
        c.due("setYarn: undo", x.undo(), 2);
        c.due("undone", x.round(1, 7), 135);
    }

    private static void setSpiral() {
        CrochetRounds x = new CrochetRounds();
        c.due("setSpiral(true)", x.setSpiral(true), false);
        c.due("spiral", x.value(7), 1);
        c.due("setSpiral(true) again", x.setSpiral(true), true);
        c.due("setSpiral(false)", x.setSpiral(false), true);
        c.due("joined", x.value(7), 0);
        c.due("setSpiral: undo", x.undo(), 2);
        c.due("spiral again", x.value(7), 1);
        x.undo();
        x.undo();
        c.due("joined at first", x.value(7), 0);
    }
}
