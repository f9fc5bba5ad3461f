/** The edges that promises 19 to 22 name, sentence by sentence. */
public final class WhatIfEdgesTest {
    private static final Class<IllegalArgumentException> ARGUMENT = IllegalArgumentException.class;
    private static final Checks c = new Checks("WhatIfEdgesTest");

    public static void main(String[] args) {
        stacksRange();
        stacks();
        stacksOfNone();
        roundsToRange();
        roundsToUp();
        roundsToDown();
        roundsToAnyNumber();
        nearestShape();
        nearestShapeTies();
        evenness();
        evennessIndex();
        c.end();
    }

    private static void stacksRange() {
        c.sentence("Throws IllegalArgumentException if an argument is out of range (stacks)");
        c.dueRange("goal", () -> new CrochetRounds(), 3, 120, (x, n) -> x.stacks(n, 0));
        c.dueRange("shift", () -> new CrochetRounds(), 0, 119, (x, n) -> x.stacks(6, n));
        CrochetRounds x = new CrochetRounds();
        c.dueThrow("not possible, and the shift out of range", x, ARGUMENT, () -> x.stacks(120, 120));
    }

    private static void stacks() {
        c.sentence("Tells how many works would be stacked in a round with a goal and a shift.");
        CrochetRounds x = Checks.told(6, "x5v1;");
        long before = x.digest();
        c.due("shift 0", x.stacks(8, 0), 1);
        c.due("shift 1", x.stacks(8, 1), 1);
        c.due("shift 2", x.stacks(8, 2), 0);
        c.due("shift 6", x.stacks(8, 6), 0);
        c.due("shift 7 is 0", x.stacks(8, 7), 1);
        c.due("shift 119 is 0", x.stacks(8, 119), 1);
        c.due("all", x.stacks(14, 119), 2);
        c.due("no shaped works", x.stacks(7, 119), 0);
        c.due("decreases", x.stacks(4, 0), 0);
        c.due("nothing changes", x.digest(), before);
        CrochetRounds y = Checks.told(8, "x5a1x1;");
        c.due("of 5 works behind 7 stitches, shift 4 is axxax", y.stacks(5, 4), 1);
        c.due("of 5 works behind 7 stitches, shift 5 is xxaxa", y.stacks(5, 5), 1);
        c.due("of 6 works, shift 2 is xxxaxx", y.stacks(6, 2), 0);
        c.due("of 6 works, shift 8 is shift 2", y.stacks(6, 8), 0);
        c.due("of 6 works, shift 7 is shift 1", y.stacks(6, 7), 1);
    }

    private static void stacksOfNone() {
        c.sentence("Returns their number; NONE if the goal is not possible (40 rounds do not matter).");
        CrochetRounds x = Checks.stitches(7);
        c.due("14", x.stacks(14, 0), 0);
        c.due("15", x.stacks(15, 0), CrochetRounds.NONE);
        c.due("120", x.stacks(120, 0), CrochetRounds.NONE);
        c.due("4", x.stacks(4, 0), 0);
        c.due("3", x.stacks(3, 0), CrochetRounds.NONE);
        CrochetRounds full = Checks.rounds(38);
        full.addRound(12);
        full.addRound(12);
        c.due("rounds", full.value(0), 40);
        c.due("24 at 40 rounds", full.stacks(24, 0), 0);
        c.due("25 at 40 rounds", full.stacks(25, 0), CrochetRounds.NONE);
        c.due("6 at 40 rounds", full.stacks(6, 0), 0);
        c.due("5 at 40 rounds", full.stacks(5, 0), CrochetRounds.NONE);
        full.rip(1);
        full.addRound(11);
        c.due("stacked behind the last round of 40", full.stacks(10, 0), 1);
    }

    private static void roundsToRange() {
        c.sentence("Throws IllegalArgumentException if an argument is out of range (roundsTo)");
        c.dueRange("total", () -> new CrochetRounds(), 3, 120, (x, n) -> x.roundsTo(n, 6));
        c.dueRange("most", () -> new CrochetRounds(), 1, 60, (x, n) -> x.roundsTo(12, n));
        CrochetRounds x = new CrochetRounds();
        c.dueRefused("most for nothing to do", x, (y, n) -> y.roundsTo(6, n), 0, 61);
    }

    private static void dueRoundsTo(int n, int total, int most, int want) {
        c.due("rounds from " + n + " to " + total + " with " + most, Checks.stitches(n).roundsTo(total, most), want);
    }

    private static void roundsToUp() {
        c.sentence("Tells in how many rounds a total could be reached, each of them possible behind the one before,"
            + " with at most some shaped works. (up)");
        dueRoundsTo(6, 7, 1, 1);
        dueRoundsTo(6, 8, 1, 2);
        dueRoundsTo(6, 12, 5, 2);
        dueRoundsTo(6, 12, 6, 1);
        dueRoundsTo(6, 12, 60, 1);
        dueRoundsTo(6, 13, 60, 2);
        dueRoundsTo(6, 24, 60, 2);
        dueRoundsTo(6, 25, 60, 3);
        dueRoundsTo(3, 120, 60, 6);
        dueRoundsTo(60, 120, 60, 1);
        dueRoundsTo(60, 120, 59, 2);
        dueRoundsTo(59, 120, 60, 2);
        dueRoundsTo(7, 30, 9, 3);
        dueRoundsTo(7, 33, 9, 4);
    }

    private static void roundsToDown() {
        c.sentence("Tells in how many rounds a total could be reached, each of them possible behind the one before,"
            + " with at most some shaped works. (down)");
        dueRoundsTo(6, 5, 1, 1);
        dueRoundsTo(6, 3, 60, 1);
        dueRoundsTo(6, 3, 3, 1);
        dueRoundsTo(6, 3, 2, 2);
        dueRoundsTo(7, 4, 60, 1);
        dueRoundsTo(7, 3, 60, 2);
        dueRoundsTo(120, 60, 60, 1);
        dueRoundsTo(120, 60, 59, 2);
        dueRoundsTo(120, 59, 60, 2);
        dueRoundsTo(119, 60, 60, 1);
        dueRoundsTo(119, 59, 60, 2);
        dueRoundsTo(120, 3, 60, 6);
        dueRoundsTo(4, 3, 1, 1);
    }

    private static void roundsToAnyNumber() {
        c.sentence("Returns the fewest rounds (as if there could be any number), 0 or more.");
        dueRoundsTo(6, 6, 1, 0);
        dueRoundsTo(3, 3, 60, 0);
        dueRoundsTo(120, 120, 1, 0);
        dueRoundsTo(3, 120, 1, 117);
        dueRoundsTo(120, 3, 1, 117);
        dueRoundsTo(6, 46, 1, 40);
        CrochetRounds full = Checks.rounds(40);
        c.due("at 40 rounds", full.roundsTo(12, 60), 1);
        c.due("many more at 40 rounds", full.roundsTo(120, 1), 114);
        c.due("none more at 40 rounds", full.roundsTo(6, 1), 0);
        CrochetRounds x = Checks.told(6, "v6;");
        c.due("from the last round", x.roundsTo(24, 60), 1);
    }

    private static void nearestShape() {
        c.sentence("Finds the shape and size whose goals are nearest to the totals of the rounds.");
        CrochetRounds x = new CrochetRounds();
        x.addRound(10);
        x.addRound(20);
        c.due("3 away from a cone of 7, more and less do not make up for each other", x.nearestShape(), 307);
        CrochetRounds y = Checks.told(12, "v12;v24;v48;v24x72;x120;");
        c.due("a ruffle up to 120, and 120 once more", y.nearestShape(), 201);
        CrochetRounds z = new CrochetRounds();
        z.begin(3);
        z.addShape(1, 19, 39);
        c.due("a ball of 19 of 40 rounds", z.nearestShape(), 119);
        z.begin(3);
        z.addShape(4, 19, 38);
        c.due("a tube of 19 of 39 rounds is as near as a ball", z.nearestShape(), 119);
        z.addShape(4, 19, 1);
        c.due("a tube of 19 of 40 rounds", z.nearestShape(), 419);
        z.begin(12);
        z.addShape(3, 11, 3);
        c.due("a cone of 11", z.nearestShape(), 311);
        dueNearest("all rounds count, not the last one alone", 303, 6, 7, 8, 16, 30);
        dueNearest("all rounds count, not the first ones alone", 103, 6, 12, 18, 18, 18);
        dueNearest("the greatest size", 320, 12, 24, 48, 72, 92, 112);
        z.begin(3);
        z.addShape(1, 20, 39);
        c.due("the greatest size of a ball", z.nearestShape(), 120);
    }

    private static void dueNearest(String what, int want, int... totals) {
        CrochetRounds x = new CrochetRounds();
        x.begin(totals[0]);
        for (int round = 1; round < totals.length; round++) {
            x.addRound(totals[round]);
        }
        c.due(what, x.nearestShape(), want);
    }

    private static void nearestShapeTies() {
        c.sentence("Returns 100 * shape + size with the least sum, over all rounds, of the amounts by which the total and the goal"
            + " differ; of several the least such number.");
        c.due("one round", new CrochetRounds().nearestShape(), 1);
        c.due("a dish before a cone of 6", Checks.told(6, "v6;").nearestShape(), 1);
        c.due("a ball of 1 before a tube of 1", Checks.rounds(3).nearestShape(), 101);
        c.due("a tube of 1", Checks.rounds(4).nearestShape(), 401);
        c.due("a tube of 1 of 40 rounds", Checks.rounds(40).nearestShape(), 401);
        c.due("a cone of 3", Checks.told(6, "x3v3;").nearestShape(), 303);
        c.due("a ruffle", Checks.told(6, "v6;v12;").nearestShape(), 201);
        c.due("a ball of 1 goes down to 3", Checks.told(6, "x6;x6;a3;x3;").nearestShape(), 101);
        c.due("as near to a tube of 2 as to a ball", Checks.told(6, "v6;x12;").nearestShape(), 102);
    }

    private static void dueEvenness(String told, double want) {
        c.due("evenness of " + told, Checks.told(9, told).evenness(1), want);
    }

    private static void evenness() {
        c.sentence("Returns its least distance, converted to double, divided by its greatest distance, converted to double;"
            + " 0.0 if this is 0.");
        dueEvenness("x9;", 0.0);
        dueEvenness("v1x8;", 0.0);
        dueEvenness("x7a1;", 0.0);
        dueEvenness("v9;", 1.0);
        dueEvenness("v1x2v1x2v1x2;", 1.0);
        dueEvenness("v2x7;", 0.125);
        dueEvenness("v1x3v1x4;", 0.8);
        dueEvenness("v1x1v1x2v1x3;", 0.5);
        dueEvenness("a1x3v1x3;", 1.0);
        dueEvenness("v1x2v1x5;", 3.0 / 6.0);
        dueEvenness("v1x1v1x6;", 2.0 / 7.0);
        c.due("of the ring", new CrochetRounds().evenness(0), 0.0);
    }

    private static void evennessIndex() {
        c.sentence("Throws IndexOutOfBoundsException if there is no such round (evenness)");
        c.dueIndex("one round", new CrochetRounds(), 1, (x, n) -> x.evenness(n));
        c.dueIndex("40 rounds", Checks.rounds(40), 40, (x, n) -> x.evenness(n));
        CrochetRounds ripped = Checks.rounds(3);
        ripped.rip(1);
        c.dueIndex("one of three ripped", ripped, 2, (x, n) -> x.evenness(n));
    }
}
