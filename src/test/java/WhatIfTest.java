/** Promises 19 to 22: what-if questions. */
public final class WhatIfTest {
    private static final Class<IllegalArgumentException> ARGUMENT = IllegalArgumentException.class;
    private static final Class<IndexOutOfBoundsException> INDEX = IndexOutOfBoundsException.class;
    private static final Checks c = new Checks("WhatIfTest");

    public static void main(String[] args) {
        stacks();
        roundsTo();
        nearestShape();
        evenness();
        c.end();
    }

    private static void stacks() {
        CrochetRounds x = new CrochetRounds();
        long before = x.digest();
        c.due("behind round 0", x.stacks(12, 0), 0);
        c.due("13 is not possible", x.stacks(13, 0), -1);
        c.due("3 is possible", x.stacks(3, 119), 0);
        c.due("nothing changes", x.digest(), before);
        x.addShifted(9, 1);
        c.due("shift 0", x.stacks(12, 0), 0);
        c.due("shift 1", x.stacks(12, 1), 3);
        c.due("shift 2", x.stacks(12, 2), 3);
        c.due("shift 119 is 2", x.stacks(12, 119), 3);
        c.due("shift 118 is 1", x.stacks(12, 118), 3);
        c.due("no shaped works", x.stacks(9, 5), 0);
        c.due("increases do not stack decreases", x.stacks(5, 0), 0);
        c.due("4 is not possible", x.stacks(4, 0), -1);
        c.due("as addShifted tells", x.addShifted(12, 118), 3);
        CrochetRounds full = new CrochetRounds();
        full.addShape(4, 2, 39);
        c.due("40 rounds do not matter", full.stacks(24, 0), 0);
        c.due("40 rounds, not possible", full.stacks(25, 0), -1);
        c.dueThrow("stacks(2, 0)", x, ARGUMENT, () -> x.stacks(2, 0));
        c.dueThrow("stacks(121, 0)", x, ARGUMENT, () -> x.stacks(121, 0));
        c.dueThrow("stacks(12, -1)", x, ARGUMENT, () -> x.stacks(12, -1));
        c.dueThrow("stacks(12, 120)", x, ARGUMENT, () -> x.stacks(12, 120));
    }

    private static void roundsTo() {
        CrochetRounds x = new CrochetRounds();
        long before = x.digest();
        c.due("there already", x.roundsTo(6, 1), 0);
        c.due("one up", x.roundsTo(7, 1), 1);
        c.due("doubled", x.roundsTo(12, 60), 1);
        c.due("more than doubled", x.roundsTo(13, 60), 2);
        c.due("6 each", x.roundsTo(24, 6), 3);
        c.due("up by ones", x.roundsTo(120, 1), 114);
        c.due("6 12 24 48 96 120", x.roundsTo(120, 60), 5);
        c.due("6 12 22 32 and so on", x.roundsTo(120, 10), 12);
        c.due("halved", x.roundsTo(3, 60), 1);
        c.due("down by ones", x.roundsTo(3, 1), 3);
        c.due("nothing changes", x.digest(), before);
        x.begin(9);
        c.due("9 5 3", x.roundsTo(3, 60), 2);
        c.due("9 5", x.roundsTo(5, 60), 1);
        c.due("9 5 4", x.roundsTo(4, 60), 2);
        c.due("9 7 5 3", x.roundsTo(3, 2), 3);
        x.begin(12);
        x.addShape(2, 1, 39);
        c.due("40 rounds do not matter: 120 60 30 15 8 4 3", x.roundsTo(3, 60), 6);
        c.due("120 to 60", x.roundsTo(60, 60), 1);
        c.due("120 to 60 with 59", x.roundsTo(60, 59), 2);
        c.dueThrow("roundsTo(2, 1)", x, ARGUMENT, () -> x.roundsTo(2, 1));
        c.dueThrow("roundsTo(121, 1)", x, ARGUMENT, () -> x.roundsTo(121, 1));
        c.dueThrow("roundsTo(6, 0)", x, ARGUMENT, () -> x.roundsTo(6, 0));
        c.dueThrow("roundsTo(6, 61)", x, ARGUMENT, () -> x.roundsTo(6, 61));
    }

    private static void nearestShape() {
        CrochetRounds x = new CrochetRounds();
        c.due("one round: the least number", x.nearestShape(), 1);
        x.addRound(12);
        x.addRound(18);
        c.due("a dish", x.nearestShape(), 1);
        x.addRound(18);
        x.addRound(18);
        x.addRound(18);
        x.addRound(18);
        x.addRound(12);
        c.due("a ball of 3", x.nearestShape(), 103);
        x.begin(6);
        x.addShape(2, 1, 4);
        c.due("a ruffle", x.nearestShape(), 201);
        x.begin(6);
        x.addShape(3, 2, 6);
        c.due("a cone of 2", x.nearestShape(), 302);
        x.begin(6);
        x.addShape(4, 2, 9);
        c.due("a tube of 2", x.nearestShape(), 402);
        x.begin(6);
        x.addRound(6);
        x.addRound(6);
        c.due("a ball of 1 before a tube of 1", x.nearestShape(), 101);
        x.addRound(6);
        c.due("a tube of 1", x.nearestShape(), 401);
        x.begin(6);
        x.addRound(9);
        c.due("sums that are alike: a cone of 3", x.nearestShape(), 303);
        x.begin(3);
        x.addShape(4, 20, 39);
        c.due("the greatest size: a ball of 20 is as near as a tube of 20", x.nearestShape(), 120);
    }

    private static CrochetRounds sampleRipped() {
        CrochetRounds x = Checks.told(6, "v6;x10v2;");
        x.rip(1);
        return x;
    }

    private static void evenness() {
        CrochetRounds x = Checks.told(9, "x1v1x1v1x5;");
        c.due("no shaped works", x.evenness(0), 0.0);
        c.due("2 of 7", x.evenness(1), 2.0 / 7.0);
        c.due("all alike", Checks.told(6, "v1x2v1x2;").evenness(1), 1.0);
        c.due("shaped works alone", Checks.told(6, "v6;").evenness(1), 1.0);
        c.due("one shaped", Checks.told(6, "v1x5;").evenness(1), 0.0);
        CrochetRounds ripped = sampleRipped();
        c.dueThrow("evenness of a ripped round", ripped, INDEX, () -> ripped.evenness(2));
        c.dueThrow("evenness(2)", x, INDEX, () -> x.evenness(2));
        c.dueThrow("evenness(-1)", x, INDEX, () -> x.evenness(-1));
    }
}
