/** Promises 27 and 28: undo and digest. */
public final class StateTest {
    private static final Checks c = new Checks("StateTest");

    public static void main(String[] args) {
        undo();
        digest();
        c.end();
    }

    private static void undo() {
        CrochetRounds x = new CrochetRounds();
        c.dueThrow("nothing saved", x, IllegalStateException.class, () -> x.undo());
        for (int ring = 7; ring <= 12; ring++) {
            x.begin(ring);
        }
        c.due("four are left", x.undo(), 3);
        c.due("11", x.value(1), 11);
        c.due("three are left", x.undo(), 2);
        c.due("10", x.value(1), 10);
        x.addRound(20);
        c.due("behind an undo and a call", x.undo(), 2);
        c.due("10 again", Checks.totals(x), "10");
        c.due("one is left", x.undo(), 1);
        c.due("9", x.value(1), 9);
        c.due("none is left", x.undo(), 0);
        c.due("8", x.value(1), 8);
        c.dueThrow("the oldest were dropped", x, IllegalStateException.class, () -> x.undo());
        undoOfEverything();
    }

    private static void undoOfEverything() {
        CrochetRounds x = new CrochetRounds();
        x.addShape(0, 1, 10);
        x.setYarn(1, 33);
        x.setSpiral(true);
        Checks.write(x, "x6;");
        long before = x.digest();
        x.begin(3);
        x.addRound(6);
        x.setYarn(1, 1);
        x.undo();
        x.undo();
        x.undo();
        c.due("everything is back, but 1 saved state in place of 3", x.digest(), before - 2);
        c.due("that one", x.undo(), 0);
        c.due("the text is not saved", x.clearText(), 3);
        CrochetRounds y = Checks.told(6, "x3v3;x1v1x1v1x1v1x1v1x1;");
        y.begin(9);
        y.addRound(18);
        y.addRound(36);
        y.undo();
        y.undo();
        y.undo();
        c.due("row 1 is back", Checks.row(y, 1), "xxxvvv");
        c.due("row 2 is back", Checks.row(y, 2), "xvxvxvxvx");
        c.due("the yarn is back", y.value(3), 60 + 90 + 130);
    }

    private static long hash(long... values) {
        long h = 3637L;
        for (long v : values) {
            h = 31L * h + v;
        }
        return h;
    }

    private static void digest() {
        CrochetRounds x = new CrochetRounds();
        c.due("digest of a new piece", x.digest(), hash(0, 1, 6, 6, 60, 0, 1, 0, 0, 10, 20, 13,
            6, 6, 6, 0, 0, 0, 1, 60, 0, 0, 0, 0, 0, 0, 0, 0, 0, 0));
        Checks.write(x, "q;");
        x.begin(3);
        x.addShifted(4, 1);
        c.due("digest of two rounds", x.digest(), hash(2, 2, 4, 7, 70, 0, 2, 1, 0, 10, 20, 13,
            3, 3, 3, 0, 0, 0, 1, 30, 0, 0, 0, 0, 0, 0,
            4, 3, 2, 1, 0, 0, 1, 40, 0, 0, -2, 0, 1, 0, 2));
        x.setSpiral(true);
        c.due("digest of a spiral", x.digest(), hash(2, 2, 4, 7, 70, 0, 2, 1, 1, 10, 20, 13,
            3, 3, 3, 0, 0, 0, 1, 30, 0, 0, 0, 0, 0, 0,
            4, 3, 2, 1, 0, 0, 1, 40, 0, 0, -2, 0, 1, 0, 3));
    }
}
