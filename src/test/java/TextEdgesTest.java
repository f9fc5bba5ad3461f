/** The edges that the Terms name of texts and promises 23 to 26, sentence by sentence. */
public final class TextEdgesTest {
    private static final Class<IllegalStateException> STATE = IllegalStateException.class;
    private static final Checks c = new Checks("TextEdgesTest");

    public static void main(String[] args) {
        length();
        toldRounds();
        items();
        itemNumbers();
        repeats();
        repeatNumbers();
        spaces();
        noRounds();
        zeros();
        firstWrongByte();
        endsTooEarly();
        outOfRange();
        fitsExactly();
        fitsTotals();
        fitsRounds();
        append();
        clearText();
        judged();
        carryOut();
        carryOutSaves();
        c.end();
    }

    /** Both calls that read the text, on a piece whose last round has so many stitches. */
    private static void due(int stitches, String text, int want) {
        CrochetRounds x = Checks.stitches(stitches);
        Checks.write(x, text);
        int before = x.value(0);
        c.due("judged of " + text, x.judged(), want);
        c.due("rounds when judged: " + text, x.value(0), before);
        c.due("carryOut of " + text, x.carryOut(), want);
        c.due("rounds when carried out: " + text, x.value(0), before + Math.max(0, want));
    }

    private static void due(String text, int want) {
        due(6, text, want);
    }

    private static void dueError(String text, int position) {
        due(6, text, -10 - position);
    }

    private static void dueCarried(int stitches, String text, String row) {
        CrochetRounds x = Checks.stitches(stitches);
        Checks.write(x, text);
        c.due("carryOut of " + text, x.carryOut(), 1);
        c.due("row of " + text, Checks.row(x, x.value(0) - 1), row);
    }

    private static void length() {
        c.sentence("The text has at most 120 bytes.");
        CrochetRounds x = new CrochetRounds();
        Checks.write(x, "x6;".repeat(39) + "x6");
        c.due("the 120th", x.append(';'), 120);
        c.due("all of them are read", x.judged(), 39);
        c.dueThrow("the 121st", x, STATE, () -> x.append(';'));
        c.due("length", x.clearText(), 120);
    }

    private static void toldRounds() {
        c.sentence("It is a sequence of told rounds, each terminated by a semicolon: one or more items,");
        due("x6;", 1);
        due("x6;x6;", 2);
        dueError("x6", 2);
        dueError("x6;x6", 5);
        dueError("x6.", 2);
        dueError(";", 0);
        dueError("x6;;", 3);
        dueError(";x6;", 0);
        due("x1x5;", 1);
        due("x1x1x1x1x1x1;", 1);
        dueError("x6,x6;", 2);
    }

    private static void items() {
        c.sentence("each of them \"x\" (singles), \"v\" (increases) or \"a\" (decreases) and a number");
        dueCarried(6, "x6;", "xxxxxx");
        dueCarried(6, "v6;", "vvvvvv");
        dueCarried(6, "a3;", "aaa");
        dueCarried(6, "a1x1v2x1;", "axvvx");
        for (char wrong : "wybcuXVAzt0159*; !~".toCharArray()) {
            dueError(wrong + "6;", 0);
            dueError("x6;" + wrong + "6;", 3);
        }
        dueError("6x;", 0);
        dueError("xv6;", 1);
    }

    private static void itemNumbers() {
        c.sentence("a number of one to three digits, 1 to 120;");
        dueError("x;", 1);
        dueError("x", 1);
        due(6, "x6;", 1);
        due(12, "x12;", 1);
        due(120, "x120;", 1);
        dueError("x1200;", 4);
        dueError("x0;", 1);
        due(6, "x1x5;", 1);
        due(120, "x119x1;", 1);
        dueError("x121;", 1);
        dueError("v121;", 1);
        dueError("a121;", 1);
        dueError("x999;", 1);
        due(60, "v60;", 1);
        due(120, "a60;", 1);
        due(9, "x9;", 1);
        dueError("x/;", 1);
        dueError("x:;", 1);
        dueError("x6/", 2);
        dueError("x6:", 2);
    }

    private static void repeats() {
        c.sentence("then, perhaps, \"*\" and a number");
        due("x6*1;", 1);
        due("x3*2;", 1);
        dueError("x6*;", 3);
        dueError("x6*x;", 3);
        dueError("x6**2;", 3);
        dueError("x6*1*1;", 4);
        dueError("x3*1x3;", 4);
        dueError("*1;", 0);
        dueError("x6;*2;", 3);
        dueError("x*2;", 1);
        dueError("x6+1;", 2);
        c.sentence("so many times all items of this round are done, one after the other.");
        dueCarried(6, "x1v1*3;", "xvxvxv");
        dueCarried(6, "x1a1*2;", "xaxa");
        dueCarried(6, "x1v2*2;", "xvvxvv");
        dueCarried(6, "x1v5*1;", "xvvvvv");
        dueCarried(60, "x1*60;", "x".repeat(60));
        due(6, "x1v1*2;", 0);
        due(6, "x1v1*4;", 0);
        c.sentence("of this round");
        due(6, "x3*2;x6;", 2);
        due(6, "x6;x3*2;", 2);
    }

    private static void repeatNumbers() {
        c.sentence("a number of one or two digits, 1 to 60:");
        due(60, "x1*60;", 1);
        due(120, "x2*60;", 1);
        dueError("x1*61;", 3);
        dueError("x1*99;", 3);
        dueError("x1*0;", 3);
        dueError("x1*00;", 3);
        due("x1*6;", 1);
        due(12, "x1*12;", 1);
        dueError("x1*600;", 5);
        dueError("x1*012;", 5);
        dueError("x1*/;", 3);
        dueError("x1*:;", 3);
        dueError("x1*6/", 4);
        dueError("x1*6:", 4);
    }

    private static void spaces() {
        c.sentence("There are no spaces;");
        dueError(" x6;", 0);
        dueError("x 6;", 1);
        dueError("x6 ;", 2);
        dueError("x6; ", 3);
        dueError("x6 *1;", 2);
        dueError("x6* 1;", 3);
        dueError("x6*1 ;", 4);
        dueError("x1 x5;", 2);
        dueError(" ", 0);
    }

    private static void noRounds() {
        c.sentence("there may be no rounds.");
        due("", 0);
        CrochetRounds x = new CrochetRounds();
        Checks.write(x, "x6;");
        x.clearText();
        c.due("an emptied text", x.judged(), 0);
        c.due("an emptied text", x.carryOut(), 0);
    }

    private static void zeros() {
        c.sentence("Numbers can have zeros in front.");
        due("x06;", 1);
        due("x006;", 1);
        due("x6*01;", 1);
        due("x02*03;", 1);
        due(12, "x012;", 1);
        dueError("x0006;", 4);
        dueError("x6*001;", 5);
    }

    private static void firstWrongByte() {
        c.sentence("The syntax error position is the index of the first byte that cannot stand where it stands (a digit too many, too),");
        dueError("q", 0);
        dueError("" + (char) 0, 0);
        dueError("" + (char) 127, 0);
        dueError("x" + (char) 127, 1);
        dueError("x6" + (char) 0, 2);
        dueError("xqq;;", 1);
        dueError("x6;y;z;", 3);
        dueError("x1111", 4);
        dueError("x12345", 4);
        dueError("x1*111", 5);
        dueError("v001*011;", 7);
        dueError("x6;".repeat(39) + "x6q", 119);
        dueError("x6;".repeat(39) + "x;", 118);
        dueError("x6;".repeat(39) + "q", 117);
        dueError("x6;".repeat(39) + ";;;", 117);
        dueError("x1".repeat(59) + "x;", 119);
        dueError("x1".repeat(59) + ";;", 119);
        dueError("x".repeat(120), 1);
        dueError(";".repeat(120), 0);
        dueError("1".repeat(120), 0);
        dueError("x" + "1".repeat(119), 4);
        dueError("x6;x7;q", 6);
    }

    private static void endsTooEarly() {
        c.sentence("or the length of the text if the text ends too early.");
        dueError("x", 1);
        dueError("x6", 2);
        dueError("x06", 3);
        dueError("x006", 4);
        dueError("x6v", 3);
        dueError("x6*", 3);
        dueError("x6*1", 4);
        dueError("x6*01", 5);
        dueError("x6;v", 4);
        dueError("x6;x6*", 6);
        dueError("x1".repeat(60), 120);
        dueError("x6;".repeat(39) + "x06", 120);
        dueError("x6;".repeat(39) + "x6*", 120);
        dueError("x6;".repeat(39) + "x6v", 120);
        dueError("x1".repeat(58) + "x6*1", 120);
    }

    private static void outOfRange() {
        c.sentence("For a number that is out of its range it is the index of its first digit, found when a byte that is no digit,"
            + " whichever it is, or the end of the text, follows it.");
        for (String behind : new String[] {"", ";", "x", "v1;", "*", "*2;", "*0;", "q", " ", "" + (char) 0, "" + (char) 127, "/", ":"}) {
            dueError("x0" + behind, 1);
            dueError("x00" + behind, 1);
            dueError("x000" + behind, 1);
            dueError("x121" + behind, 1);
            dueError("x999" + behind, 1);
            dueError("x6;v200" + behind, 4);
            dueError("x6*0" + behind, 3);
            dueError("x6*00" + behind, 3);
            dueError("x6*61" + behind, 3);
            dueError("x6*99" + behind, 3);
        }
        for (String digit : new String[] {"0", "1", "9"}) {
            dueError("x000" + digit, 4);
            dueError("x121" + digit, 4);
            dueError("x120" + digit, 4);
            dueError("x6*61" + digit, 5);
            dueError("x6*00" + digit, 5);
        }
        dueError("x1".repeat(58) + "x1*0", 119);
        dueError("x6;".repeat(39) + "x0;", 118);
        dueError("x6;".repeat(39) + "x00", 118);
    }

    private static void fitsExactly() {
        c.sentence("A told round fits a piece if its works use up the stitches of the last round exactly,");
        due("x5;", 0);
        due("x6;", 1);
        due("x7;", 0);
        due("v5;", 0);
        due("v6;", 1);
        due("v7;", 0);
        due("a2x1;", 0);
        due("a3;", 1);
        due("a3x1;", 0);
        due("a1x4;", 1);
        due("a1x3;", 0);
        due("a1x5;", 0);
        due("x120*60;", 0);
        due("v120".repeat(28) + "*60;", 0);
    }

    private static void fitsTotals() {
        c.sentence("its total is 3 to 120,");
        due(3, "a1x1;", 0);
        due(4, "a2;", 0);
        due(4, "a1x2;", 1);
        due(5, "a2x1;", 1);
        due(3, "x3;", 1);
        due(60, "v60;", 1);
        due(61, "v59x2;", 1);
        due(61, "v60x1;", 0);
        due(61, "v61;", 0);
        due(120, "x120;", 1);
        due(120, "v1x119;", 0);
        due(120, "v1a1x117;", 1);
        due(120, "v120;", 0);
    }

    private static void fitsRounds() {
        c.sentence("and there are fewer than 40 rounds.");
        CrochetRounds x = Checks.rounds(38);
        Checks.write(x, "x6;x6;x6;");
        c.due("judged at 38", x.judged(), 2);
        c.due("carryOut at 38", x.carryOut(), 2);
        c.due("40 rounds", x.value(0), 40);
        c.due("judged at 40", x.judged(), 0);
        c.due("carryOut at 40", x.carryOut(), 0);
        c.due("still 40 rounds", x.value(0), 40);
        x.rip(1);
        c.due("judged at 39", x.judged(), 1);
        c.due("carryOut at 39", x.carryOut(), 1);
        Checks.rewrite(x, "q");
        c.due("an error at 40", x.judged(), -10);
    }

    private static void append() {
        c.sentence("value: the byte, 0 to 127. Throws IllegalArgumentException if value is out of range");
        c.dueRange("append", () -> new CrochetRounds(), 0, 127, (x, n) -> x.append(n));
        c.sentence("Throws IllegalStateException if the text has 120 bytes");
        CrochetRounds x = new CrochetRounds();
        for (int i = 1; i <= 120; i++) {
            c.due("byte " + i, x.append('x'), i);
        }
        c.dueThrow("byte 121", x, STATE, () -> x.append('x'));
        c.dueThrow("byte 121 is 0", x, STATE, () -> x.append(0));
        c.dueThrow("byte 121 is 127", x, STATE, () -> x.append(127));
        c.sentence("If several exceptions apply, the one that is listed first is thrown. (append)");
        c.dueRefused("byte 121", x, (y, n) -> y.append(n), -1, 128, Integer.MIN_VALUE, Integer.MAX_VALUE);
        c.sentence("Returns the new length of the text.");
        c.due("cleared", x.clearText(), 120);
        c.due("the first", x.append(0), 1);
        c.due("the second", x.append(0), 2);
    }

    private static void clearText() {
        c.sentence("Empties the text. Returns the length that it had.");
        CrochetRounds x = new CrochetRounds();
        c.due("of a new piece", x.clearText(), 0);
        Checks.write(x, "x6;");
        c.due("of 3", x.clearText(), 3);
        c.due("of an emptied one", x.clearText(), 0);
        c.due("nothing is left to read", x.judged(), 0);
        Checks.write(x, "q".repeat(120));
        c.due("of 120", x.clearText(), 120);
        c.due("the next byte is the first", x.append('v'), 1);
        c.due("it is read alone", x.judged(), -11);
    }

    private static void judged() {
        c.sentence("Returns how many of them would fit, one behind the other, up to the first that does not;");
        due("v6;x12;", 2);
        due("v6;x6;", 1);
        due("x5;x6;", 0);
        due("x6;x5;x6;", 1);
        due("v6;a6;v6;a6;v6;", 5);
        due("a3;x3;v3;", 3);
        due("a3;a1x1;x3;", 1);
        due("v6;v12;v24;v48;v24x72;x120;", 6);
        due("v6;v12;v24;v48;v25x71;x120;", 4);
        c.sentence("-10 minus the syntax error position if there is a syntax error. (judged)");
        due("q", -10);
        due("x6;x6;q", -16);
        due("x5;q", -13);
        due("x1".repeat(60), -130);
        CrochetRounds x = new CrochetRounds();
        Checks.write(x, "x6;");
        long before = x.digest();
        c.due("judged", x.judged(), 1);
        c.due("judged again", x.judged(), 1);
        c.due("nothing changes", x.digest(), before);
        c.due("nothing is saved", Checks.thrown(() -> x.undo()), "IllegalStateException");
    }

    private static void carryOut() {
        c.sentence("Adds the told rounds of the text, up to the first that does not fit. The text stays as it is.");
        CrochetRounds x = new CrochetRounds();
        Checks.write(x, "x1v1*3;a1x7;x9;v8;");
        c.due("two of four", x.carryOut(), 2);
        c.dueTotals(x, "6 9 8");
        c.dueRow(x, 1, "xvxvxv");
        c.dueRow(x, 2, "axxxxxxx");
        c.due("the text stays", x.clearText(), 18);
        Checks.write(x, "x8;");
        c.due("once", x.carryOut(), 1);
        c.due("twice", x.carryOut(), 1);
        c.due("longer", x.append('x'), 4);
        c.due("an error now", x.carryOut(), -14);
        c.dueTotals(x, "6 9 8 8 8");
        x.rip(2);
        Checks.rewrite(x, "x1v7;");
        c.due("where a round was ripped", x.carryOut(), 1);
        c.dueTotals(x, "6 9 8 15");
        c.dueRow(x, 3, "xvvvvvvv");
        x.undo();
        Checks.rewrite(x, "a4;");
        c.due("where a round was undone", x.carryOut(), 1);
        c.dueTotals(x, "6 9 8 4");
        c.dueRow(x, 3, "aaaa");
    }

    private static void carryOutSaves() {
        c.sentence("Undoable (one saved state, also if no round is added), if there is no syntax error.");
        CrochetRounds x = new CrochetRounds();
        Checks.write(x, "x6;x6;v6;");
        c.due("three rounds", x.carryOut(), 3);
        c.due("one state", x.undo(), 0);
        c.dueTotals(x, "6");
        x.begin(7);
        x.undo();
        Checks.rewrite(x, "x5;");
        c.due("no round", x.carryOut(), 0);
        c.due("one state all the same", x.undo(), 0);
        x.clearText();
        c.due("an empty text", x.carryOut(), 0);
        c.due("one state for it", x.undo(), 0);
        CrochetRounds full = Checks.rounds(40);
        Checks.write(full, "x6;");
        c.due("at 40 rounds", full.carryOut(), 0);
        c.due("one state on top of that of addShape", full.undo(), 1);
        c.sentence("-10 minus the syntax error position if there is a syntax error (then nothing changes).");
        Checks.write(x, "x6;x6;x");
        long before = x.digest();
        c.due("an error behind rounds that fit", x.carryOut(), -17);
        c.due("nothing changes", x.digest(), before);
        c.dueThrow("nothing is saved", x, STATE, () -> x.undo());
        c.dueRefused("the text is as long as before", x, (y, n) -> y.append(n), 128);
        c.due("and can go on", x.append('6'), 8);
        x.append(';');
        c.due("three rounds", x.carryOut(), 3);
    }
}
