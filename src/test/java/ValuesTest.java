/** Promises 10 to 18: what a piece tells. */
public final class ValuesTest {
    private static final Class<IllegalArgumentException> ARGUMENT = IllegalArgumentException.class;
    private static final Class<IndexOutOfBoundsException> INDEX = IndexOutOfBoundsException.class;
    private static final Checks c = new Checks("ValuesTest");

    public static void main(String[] args) {
        round();
        distances();
        work();
        maker();
        parent();
        child();
        root();
        place();
        value();
        goal();
        c.end();
    }

    /** Round 1 makes 0 | 1 2 | 3 | 4; round 2 makes 0 1 | 2 3 | 4 5 | 6 | 7. */
    private static CrochetRounds sample() {
        return Checks.told(5, "x1v1x1a1;v3x2;");
    }

    private static void due(CrochetRounds x, int round, int... wants) {
        for (int what = 0; what < wants.length; what++) {
            c.due("round(" + round + ", " + what + ")", x.round(round, what), wants[what]);
        }
    }

    private static void round() {
        CrochetRounds x = sample();
        due(x, 0, 5, 5, 5, 0, 0, 0, 1, 50, 0, 0, 0);
        due(x, 1, 5, 4, 2, 1, 1, 0, 0, 53, 2, 2, -5);
        due(x, 2, 8, 5, 2, 3, 0, 2, 0, 80, 3, 1, -7);
        x.addRound(4);
        due(x, 3, 4, 4, 0, 0, 4, 0, 1, 52, 1, 1, -16);
        c.dueThrow("round(4, 0)", x, INDEX, () -> x.round(4, 0));
        c.dueThrow("round(-1, 0)", x, INDEX, () -> x.round(-1, 0));
        c.dueThrow("round(4, 11)", x, INDEX, () -> x.round(4, 11));
        c.dueThrow("round(0, 11)", x, ARGUMENT, () -> x.round(0, 11));
        c.dueThrow("round(0, -1)", x, ARGUMENT, () -> x.round(0, -1));
        c.dueThrow("round(MIN, MIN)", x, INDEX, () -> x.round(Integer.MIN_VALUE, Integer.MIN_VALUE));
        c.due("mirrored though told", Checks.told(5, "v1x3v1;").round(1, 6), 1);
        c.due("not mirrored: an increase faces a decrease", Checks.told(5, "v1x2a1;").round(1, 6), 0);
        CrochetRounds ripped = sample();
        ripped.rip(1);
        c.dueThrow("round(2, 0) when ripped", ripped, INDEX, () -> ripped.round(2, 0));
    }

    private static void distances() {
        CrochetRounds one = Checks.told(6, "x5v1;");
        c.due("greatest of one shaped", one.round(1, 8), 0);
        c.due("least of one shaped", one.round(1, 9), 0);
        CrochetRounds two = Checks.told(6, "v1x2v1x2;");
        c.due("greatest of two", two.round(1, 8), 3);
        c.due("least of two", two.round(1, 9), 3);
        CrochetRounds round = Checks.told(9, "x1v1x1v1x5;");
        c.due("greatest goes round the row", round.round(1, 8), 7);
        c.due("least within the row", round.round(1, 9), 2);
        CrochetRounds seam = Checks.told(9, "v1x3v1x3v1;");
        c.due("greatest within the row", seam.round(1, 8), 4);
        c.due("least goes round the row", seam.round(1, 9), 1);
        CrochetRounds mixed = Checks.told(9, "a1x2v1x4;");
        c.due("increases and decreases alike", mixed.round(1, 8), 5);
        c.due("increases and decreases alike, least", mixed.round(1, 9), 3);
    }

    private static void work() {
        CrochetRounds x = sample();
        c.due("row 0", Checks.row(x, 0), "xxxxx");
        c.due("row 1", Checks.row(x, 1), "xvxa");
        c.due("row 2", Checks.row(x, 2), "vvvxx");
        c.due("work(1, 3)", x.work(1, 3), 2);
        c.dueThrow("work(1, 4)", x, INDEX, () -> x.work(1, 4));
        c.dueThrow("work(1, -1)", x, INDEX, () -> x.work(1, -1));
        c.dueThrow("work(3, 0)", x, INDEX, () -> x.work(3, 0));
        c.dueThrow("work(-1, 0)", x, INDEX, () -> x.work(-1, 0));
        CrochetRounds ripped = sample();
        ripped.rip(1);
        c.dueThrow("work(2, 0) when ripped", ripped, INDEX, () -> ripped.work(2, 0));
        c.dueThrow("work(MAX, MAX)", x, INDEX, () -> x.work(Integer.MAX_VALUE, Integer.MAX_VALUE));
    }

    private interface OfStitch {
        int of(CrochetRounds x, int round, int stitch);
    }

    private static void dueStitches(String name, OfStitch call, String... wants) {
        CrochetRounds x = sample();
        for (int round = 0; round < wants.length; round++) {
            StringBuilder got = new StringBuilder();
            for (int s = 0; s < x.round(round, 0); s++) {
                got.append(s == 0 ? "" : " ").append(call.of(x, round, s));
            }
            c.due(name + " of round " + round, got.toString(), wants[round]);
        }
        c.dueThrow(name + "(0, 5)", x, INDEX, () -> call.of(x, 0, 5));
        c.dueThrow(name + "(1, 5)", x, INDEX, () -> call.of(x, 1, 5));
        c.dueThrow(name + "(2, 8)", x, INDEX, () -> call.of(x, 2, 8));
        c.dueThrow(name + "(2, -1)", x, INDEX, () -> call.of(x, 2, -1));
        c.dueThrow(name + "(3, 0)", x, INDEX, () -> call.of(x, 3, 0));
        c.dueThrow(name + "(-1, 0)", x, INDEX, () -> call.of(x, -1, 0));
        c.dueThrow(name + "(MAX, MIN)", x, INDEX, () -> call.of(x, Integer.MAX_VALUE, Integer.MIN_VALUE));
    }

    private static void maker() {
        dueStitches("maker", (x, r, s) -> x.maker(r, s), "0 1 2 3 4", "0 1 1 2 3", "0 0 1 1 2 2 3 4");
    }

    private static void parent() {
        dueStitches("parent", (x, r, s) -> x.parent(r, s), "-1 -1 -1 -1 -1", "0 1 1 2 3", "0 0 1 1 2 2 3 4");
    }

    private static void child() {
        dueStitches("child", (x, r, s) -> x.child(r, s), "0 1 3 4 4", "0 2 4 6 7", "-1 -1 -1 -1 -1 -1 -1 -1");
        CrochetRounds ripped = sample();
        ripped.rip(1);
        c.due("child of the last round, the next one ripped", ripped.child(1, 0), -1);
        CrochetRounds over = Checks.told(6, "x2a1x2;");
        c.due("child by the first stitch of a decrease", over.child(0, 2), 2);
        c.due("child by the second stitch of a decrease", over.child(0, 3), 2);
        c.due("parent of a decrease's stitch", over.parent(1, 2), 2);
        c.due("parent behind a decrease", over.parent(1, 3), 4);
    }

    private static void root() {
        dueStitches("root", (x, r, s) -> x.root(r, s), "0 1 2 3 4", "0 1 1 2 3", "0 0 1 1 1 1 2 3");
    }

    private static void place() {
        dueStitches("place", (x, r, s) -> x.place(r, s), "0 200 400 600 800", "0 200 400 600 800",
            "0 125 250 375 500 625 750 875");
        dueStitches("place in a spiral", (x, r, s) -> {
            x.setSpiral(true);
            try {
                return x.place(r, s);
            } finally {
                x.undo();
            }
        }, "0 200 400 600 800", "100 300 500 700 900", "125 250 375 500 625 750 875 0");
        CrochetRounds x = new CrochetRounds();
        x.begin(3);
        x.addShape(4, 1, 10);
        c.due("rounded down", x.place(0, 1), 333);
        c.due("rounded down", x.place(0, 2), 666);
        x.setSpiral(true);
        c.due("spiral, over the turn", x.place(7, 2), 833);
        c.due("spiral, twice over the turn", x.place(10, 2), 333);
    }

    private static void value() {
        CrochetRounds x = sample();
        x.setSpiral(true);
        int[] wants = {3, 8, 18, 183, 2, 1, 2, 1};
        for (int what = 0; what < wants.length; what++) {
            c.due("value(" + what + ")", x.value(what), wants[what]);
        }
        x.addRound(8);
        c.due("the lowest of several widest", x.value(6), 2);
        c.due("mirrored", x.value(5), 2);
        x.addRound(5);
        c.due("the widest is not the last", x.value(6), 2);
        c.due("total of the last", x.value(1), 5);
        c.due("the widest is the first", Checks.told(6, "a1x4;").value(6), 0);
        c.dueThrow("value(8)", x, ARGUMENT, () -> x.value(8));
        c.dueThrow("value(-1)", x, ARGUMENT, () -> x.value(-1));
    }

    private static void dueGoals(CrochetRounds x, int shape, int size, String want) {
        StringBuilder got = new StringBuilder();
        for (int round = 0; round < 40; round++) {
            got.append(round == 0 ? "" : " ").append(x.goal(shape, size, round));
        }
        c.due("goals of shape " + shape + " of size " + size, got.toString().startsWith(want), true);
    }

    private static void goal() {
        CrochetRounds x = new CrochetRounds();
        x.addRound(12);
        dueGoals(x, 0, 7, "6 12 18 24 30 36 42 48 54 60 66 72 78 84 90 96 102 108 114 120 120 120");
        dueGoals(x, 1, 3, "6 12 18 18 18 18 18 12 6 3 3 3 3 3 3 3 3 3 3 3 3 3 3 3 3 3 3 3 3 3 3 3 3 3 3 3 3 3 3 3");
        dueGoals(x, 1, 1, "6 6 6 3 3 3");
        dueGoals(x, 2, 1, "6 12 24 48 96 120 120");
        dueGoals(x, 3, 2, "6 8 10 12 14");
        dueGoals(x, 4, 3, "6 12 18 18 18");
        c.due("goal(1, 1, 39)", x.goal(1, 1, 39), 3);
        c.due("goal(1, 20, 39)", x.goal(1, 20, 39), 120);
        c.due("goal(2, 20, 39)", x.goal(2, 20, 39), 120);
        c.due("goal(3, 20, 39)", x.goal(3, 20, 39), 120);
        c.due("goal(4, 20, 39)", x.goal(4, 20, 39), 120);
        x.begin(3);
        c.due("with the present round 0", x.goal(3, 1, 39), 42);
        c.due("cone of 3", x.goal(3, 20, 1), 23);
        c.dueThrow("goal(-1, 1, 0)", x, ARGUMENT, () -> x.goal(-1, 1, 0));
        c.dueThrow("goal(5, 1, 0)", x, ARGUMENT, () -> x.goal(5, 1, 0));
        c.dueThrow("goal(0, 0, 0)", x, ARGUMENT, () -> x.goal(0, 0, 0));
        c.dueThrow("goal(0, 21, 0)", x, ARGUMENT, () -> x.goal(0, 21, 0));
        c.dueThrow("goal(0, 1, -1)", x, ARGUMENT, () -> x.goal(0, 1, -1));
        c.dueThrow("goal(0, 1, 40)", x, ARGUMENT, () -> x.goal(0, 1, 40));
    }
}
