/** Promises 23 to 26: the text. */
public final class TextTest {
    private static final Class<IllegalArgumentException> ARGUMENT = IllegalArgumentException.class;
    private static final Class<IllegalStateException> STATE = IllegalStateException.class;
    private static final Checks c = new Checks("TextTest");

    public static void main(String[] args) {
        append();
        clearText();
        syntax();
        ranges();
        judged();
        carryOut();
        longTexts();
        c.end();
    }

    private static void append() {
        CrochetRounds x = new CrochetRounds();
        c.due("append(0)", x.append(0), 1);
        c.due("append(127)", x.append(127), 2);
        c.dueThrow("append(-1)", x, ARGUMENT, () -> x.append(-1));
        c.dueThrow("append(128)", x, ARGUMENT, () -> x.append(128));
        for (int length = 3; length <= 120; length++) {
            c.due("append", x.append(';'), length);
        }
        c.dueThrow("append to 120", x, STATE, () -> x.append('x'));
        c.dueThrow("append(128) to 120", x, ARGUMENT, () -> x.append(128));
        c.due("the text is no part of the saved state", Checks.thrown(() -> x.undo()), "IllegalStateException");
    }

    private static void clearText() {
        CrochetRounds x = new CrochetRounds();
        c.due("nothing to clear", x.clearText(), 0);
        Checks.write(x, "x6;");
        c.due("cleared", x.clearText(), 3);
        c.due("cleared already", x.clearText(), 0);
        c.due("nothing is judged", x.judged(), 0);
        c.due("a new text", x.append('v'), 1);
        c.due("a new text is judged alone", x.judged(), -11);
    }

    private static void dueJudged(String text, int want) {
        CrochetRounds x = new CrochetRounds();
        Checks.write(x, text);
        long before = x.digest();
        c.due("judged of " + text, x.judged(), want);
        c.due("judging " + text + " changes nothing", x.digest(), before);
        int rounds = x.value(0);
        c.due("carryOut of " + text, x.carryOut(), want);
        c.due("rounds behind " + text, x.value(0), rounds + Math.max(0, want));
        if (want < 0) {
            c.due("an error changes nothing: " + text, x.digest(), before);
        }
    }

    private static void syntax() {
        dueJudged("", 0);
        dueJudged(";", -10);
        dueJudged("x", -11);
        dueJudged("x6", -12);
        dueJudged("x6;", 1);
        dueJudged("x6;;", -13);
        dueJudged("x6; ", -13);
        dueJudged(" x6;", -10);
        dueJudged("x 6;", -11);
        dueJudged("x6 ;", -12);
        dueJudged("6;", -10);
        dueJudged("*2;", -10);
        dueJudged("xx;", -11);
        dueJudged("x;", -11);
        dueJudged("x*2;", -11);
        dueJudged("X6;", -10);
        dueJudged("y6;", -10);
        dueJudged("x006;", 1);
        dueJudged("x0006;", -14);
        dueJudged("x1234;", -14);
        dueJudged("x2*3;", 1);
        dueJudged("x2*03;", 1);
        dueJudged("x2*003;", -15);
        dueJudged("x2*;", -13);
        dueJudged("x2*", -13);
        dueJudged("x2*x", -13);
        dueJudged("x2*3", -14);
        dueJudged("x2*3x", -14);
        dueJudged("x2*3*", -14);
        dueJudged("x2**", -13);
        dueJudged("x2-", -12);
        dueJudged("x1/", -12);
        dueJudged("x1:", -12);
        dueJudged("x1" + (char) 0, -12);
        dueJudged("" + (char) 127, -10);
        dueJudged("x6;x7", -15);
        dueJudged("x9;x6;q", -16);
    }

    private static void ranges() {
        dueJudged("x0;", -11);
        dueJudged("x0", -11);
        dueJudged("x0q", -11);
        dueJudged("x00", -11);
        dueJudged("x000", -11);
        dueJudged("x0000", -14);
        dueJudged("x121;", -11);
        dueJudged("x121", -11);
        dueJudged("x121*", -11);
        dueJudged("x1210", -14);
        dueJudged("x120", -14);
        dueJudged("x120;", 0);
        dueJudged("x999v", -11);
        dueJudged("x6v0;", -13);
        dueJudged("x6*0;", -13);
        dueJudged("x6*00", -13);
        dueJudged("x6*61;", -13);
        dueJudged("x6*61", -13);
        dueJudged("x6*61x", -13);
        dueJudged("x6*610", -15);
        dueJudged("x6*60;", 0);
        dueJudged("x6*1;", 1);
    }

    private static void judged() {
        dueJudged("x6;v6;x12;", 3);
        dueJudged("x6;v7;x12;", 1);
        dueJudged("x5;x6;", 0);
        dueJudged("x7;", 0);
        dueJudged("x1v1*3;", 1);
        dueJudged("x1v1*4;", 0);
        dueJudged("a3;", 1);
        dueJudged("a1*3;x3;", 2);
        dueJudged("a3;a1x1;", 1);
        dueJudged("v6;a6;", 2);
        dueJudged("v6;v12;v24;v48;x96;", 5);
        dueJudged("v6;v12;v24;v48;v24x72;", 5);
        dueJudged("v6;v12;v24;v48;v25x71;", 4);
        dueJudged("x2a2;x4;", 2);
        dueJudged("a1x4;", 1);
        dueJudged("x120*60;", 0);
    }

    private static void carryOut() {
        CrochetRounds x = new CrochetRounds();
        Checks.write(x, "x1v2*2;a2x2v1x3;x8;");
        c.due("carryOut", x.carryOut(), 2);
        c.due("row 1", Checks.row(x, 1), "xvvxvv");
        c.due("row 2", Checks.row(x, 2), "aaxxvxxx");
        c.due("totals", Checks.totals(x), "6 10 9");
        c.due("the text stays: again", x.carryOut(), 0);
        c.due("saved though nothing is added", x.undo(), 1);
        c.due("one saved state", x.undo(), 0);
        c.due("undone", Checks.totals(x), "6");
        c.due("the text stays: cleared", x.clearText(), 19);
        Checks.write(x, "q");
        c.due("an error", x.carryOut(), -10);
        c.dueThrow("an error saves nothing", x, STATE, () -> x.undo());
        fortyRounds();
    }

    private static void fortyRounds() {
        CrochetRounds x = new CrochetRounds();
        x.addShape(4, 1, 37);
        Checks.write(x, "x6;x6;x6;");
        c.due("38 rounds: judged", x.judged(), 2);
        c.due("38 rounds: carryOut", x.carryOut(), 2);
        c.due("40 rounds", x.value(0), 40);
        c.due("40 rounds: judged", x.judged(), 0);
        c.due("40 rounds: carryOut", x.carryOut(), 0);
        c.due("40 rounds: saved", x.undo(), 2);
    }

    private static void longTexts() {
        CrochetRounds x = new CrochetRounds();
        Checks.write(x, "x6;".repeat(40));
        c.due("40 told rounds in 120 bytes", x.carryOut(), 39);
        Checks.rewrite(x, "x1".repeat(60));
        c.due("60 items and no semicolon", x.judged(), -130);
        Checks.rewrite(x, "x1".repeat(59) + ";x");
        c.due("59 items, then too early an end", x.judged(), -130);
        Checks.rewrite(x, "v120".repeat(28) + "*60;");
        c.due("far too many works", x.judged(), 0);
        Checks.rewrite(x, "x1v1".repeat(3) + ";" + "x1".repeat(50));
        c.due("many items without an end", x.judged(), -123);
        x.begin(12);
        Checks.rewrite(x, "x1v1".repeat(6) + ";" + "x1".repeat(18) + ";");
        c.due("many items", x.carryOut(), 2);
        c.due("many items: row", Checks.row(x, 1), "xv".repeat(6));
        c.due("many items: row", Checks.row(x, 2), "x".repeat(18));
    }
}
