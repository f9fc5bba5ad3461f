/** The edges that the Terms name of undo and exceptions, and promises 27 and 28, sentence by sentence. */
public final class StateEdgesTest {
    private static final Checks c = new Checks("StateEdgesTest");
    private static final String[] TOLD = {"v6;", "x6;x6;", "x5;", "", "q", "x6"};

    private interface Change {
        void on(CrochetRounds x);
    }

    public static void main(String[] args) {
        saves();
        savesThoughNothingChanges();
        savesNothing();
        savesNothingWhenThrown();
        mostSaved();
        savedAll();
        savedNoText();
        thrownChangesNothing();
        undo();
        digestOfSmall();
        digestOfFull();
        c.end();
    }

    /** How many states could be undone, found on the way. */
    private static int saved(CrochetRounds x) {
        int saved = 0;
        while (Checks.thrown(() -> x.undo()).equals("nothing")) {
            saved++;
        }
        return saved;
    }

    /** A piece of more than one round comes with the one state that addShape saved. */
    private static void dueSaved(String what, CrochetRounds x, Change change, int want) {
        int older = x.value(0) == 1 ? 0 : 1;
        long before = x.digest();
        change.on(x);
        if (want == 1) {
            c.due("undo of " + what, Checks.thrown(() -> x.undo()), "nothing");
        }
        c.due("state behind " + what, x.digest(), before);
        c.due("older states behind " + what, saved(x), older);
    }

    private static void saves() {
        c.sentence("Each successful call of a method whose description says \"undoable\" saves the state from before the call,");
        dueSaved("begin", Checks.rounds(1), x -> x.begin(7), 1);
        dueSaved("addRound", Checks.rounds(1), x -> x.addRound(7), 1);
        dueSaved("addShifted", Checks.rounds(1), x -> x.addShifted(7, 0), 1);
        dueSaved("addMirrored", Checks.rounds(1), x -> x.addMirrored(8), 1);
        dueSaved("addShape", Checks.rounds(1), x -> x.addShape(0, 1, 9), 1);
        dueSaved("rip", Checks.rounds(3), x -> x.rip(1), 1);
        dueSaved("setYarn", Checks.rounds(1), x -> x.setYarn(0, 1), 1);
        dueSaved("setSpiral", Checks.rounds(1), x -> x.setSpiral(true), 1);
        dueSaved("carryOut", Checks.rounds(1), x -> carryOut(x, "x6;x6;x6;"), 1);
    }

    private static int carryOut(CrochetRounds x, String text) {
        Checks.rewrite(x, text);
        int answer = x.carryOut();
        x.clearText();
        return answer;
    }

    private static void savesThoughNothingChanges() {
        c.sentence("even if the call changes nothing;");
        dueSaved("begin", Checks.rounds(1), x -> x.begin(6), 1);
        dueSaved("addShape of no round", Checks.rounds(1), x -> x.addShape(3, 20, 1), 1);
        dueSaved("addShape at 40", Checks.rounds(40), x -> x.addShape(4, 1, 1), 1);
        dueSaved("setYarn", Checks.rounds(1), x -> x.setYarn(2, 13), 1);
        dueSaved("setSpiral", Checks.rounds(1), x -> x.setSpiral(false), 1);
        dueSaved("carryOut of no round", Checks.rounds(1), x -> carryOut(x, "x5;"), 1);
        dueSaved("carryOut of an empty text", Checks.rounds(1), x -> x.carryOut(), 1);
    }

    private static void savesNothing() {
        c.sentence("a method whose description says \"undoable\" (no other one saves)");
        dueSaved("the values", Checks.rounds(1), x -> {
            x.round(0, 5);
            x.work(0, 0);
            x.maker(0, 0);
            x.parent(0, 0);
            x.child(0, 0);
            x.root(0, 0);
            x.place(0, 0);
            x.value(4);
            x.goal(1, 2, 3);
        }, 0);
        dueSaved("what if", Checks.rounds(1), x -> {
            x.stacks(12, 3);
            x.roundsTo(120, 1);
            x.nearestShape();
            x.evenness(0);
        }, 0);
        dueSaved("the text", Checks.rounds(1), x -> {
            Checks.write(x, "x6;");
            x.judged();
            x.clearText();
        }, 0);
        dueSaved("carryOut of an error", Checks.rounds(1), x -> carryOut(x, "x6;x"), 0);
        dueSaved("digest", Checks.rounds(1), x -> x.digest(), 0);
    }

    private static void savesNothingWhenThrown() {
        c.sentence("Each successful call");
        CrochetRounds full = Checks.rounds(40);
        throwAll(full);
        c.due("states of a full piece, that of addShape", saved(full), 1);
        CrochetRounds one = new CrochetRounds();
        throwAll(one);
        c.due("states of a new piece", saved(one), 0);
    }

    private static void throwAll(CrochetRounds x) {
        int rounds = x.value(0);
        Checks.Call[] calls = {
            () -> x.begin(2), () -> x.begin(13), () -> x.addRound(2), () -> x.addRound(13), () -> x.addRound(121),
            () -> x.addShifted(2, 0), () -> x.addShifted(6, 120), () -> x.addShifted(13, 0), () -> x.addMirrored(2),
            () -> x.addMirrored(7), () -> x.addMirrored(13), () -> x.addShape(5, 1, 1), () -> x.addShape(0, 21, 1),
            () -> x.addShape(0, 1, 40), () -> x.rip(0), () -> x.rip(rounds), () -> x.setYarn(3, 1), () -> x.setYarn(0, 61),
            () -> x.round(rounds, 0), () -> x.round(0, 11), () -> x.work(0, 6), () -> x.maker(0, 6), () -> x.parent(0, 6),
            () -> x.child(0, 6), () -> x.root(0, 6), () -> x.place(0, 6), () -> x.value(8), () -> x.goal(5, 1, 1),
            () -> x.stacks(121, 0), () -> x.stacks(6, 120), () -> x.roundsTo(121, 1), () -> x.roundsTo(6, 61),
            () -> x.evenness(rounds), () -> x.append(128), () -> x.append(-1),
        };
        for (int i = 0; i < calls.length; i++) {
            c.isTrue("call " + i + " throws", !Checks.thrown(calls[i]).equals("nothing"));
        }
    }

    private static void mostSaved() {
        c.sentence("at most 4 states are saved, and the oldest is dropped first.");
        CrochetRounds x = new CrochetRounds();
        for (int ring = 3; ring <= 6; ring++) {
            x.begin(ring);
        }
        c.due("4 of 4", saved(x), 4);
        c.due("the first is kept", x.value(1), 6);
        for (int ring = 3; ring <= 7; ring++) {
            x.begin(ring);
        }
        c.due("4 of 5", saved(x), 4);
        c.due("the first is dropped, the second is kept", x.value(1), 3);
        for (int ring = 3; ring <= 12; ring++) {
            x.begin(ring);
        }
        c.due("4 of 10", saved(x), 4);
        c.due("the seventh is the oldest", x.value(1), 8);
        x.begin(3);
        x.begin(4);
        x.undo();
        for (int ring = 5; ring <= 8; ring++) {
            x.begin(ring);
        }
        c.due("5 with one undone between them", x.undo(), 3);
        c.due("the newest", x.value(1), 7);
        c.due("the next", x.undo(), 2);
        c.due("of it", x.value(1), 6);
        c.due("the next", x.undo(), 1);
        c.due("of it", x.value(1), 5);
        c.due("the oldest", x.undo(), 0);
        c.due("of it", x.value(1), 3);
    }

    private static void savedAll() {
        c.sentence("The saved state contains everything except the text.");
        CrochetRounds x = Checks.told(12, "x3v9;v5x16;a1x24;v25;x50;");
        carryOut(x, "x1v5;a2x7;");
        x.setYarn(0, 11);
        x.setYarn(1, 21);
        x.setSpiral(true);
        String before = told(x);
        x.setYarn(2, 60);
        x.setYarn(1, 1);
        x.setSpiral(false);
        x.begin(12);
        x.undo();
        x.undo();
        x.undo();
        x.undo();
        c.due("rounds, yarn, spiral", told(x), before);
        x.begin(12);
        carryOut(x, "v12;v24;v48;");
        x.setYarn(0, 1);
        x.undo();
        x.undo();
        x.undo();
        c.due("after longer rounds", told(x), before);
        dueFullBack();
    }

    /** All that can be asked of a piece without a change, as one text. */
    private static String told(CrochetRounds x) {
        StringBuilder told = new StringBuilder();
        for (int r = 0; r < x.value(0); r++) {
            told.append(Checks.row(x, r)).append(' ').append(x.round(r, 0)).append(' ').append(x.round(r, 7)).append(' ');
        }
        return told.append(x.value(7)).append(' ').append(x.value(3)).toString();
    }

    private static void dueFullBack() {
        CrochetRounds x = Checks.stitches(120);
        x.addShape(2, 1, 39);
        String before = told(x);
        c.due("40 rounds", x.value(0), 40);
        x.rip(39);
        x.addShape(4, 1, 39);
        x.begin(3);
        x.undo();
        x.undo();
        x.undo();
        c.due("40 rounds of up to 120 are back", told(x), before);
    }

    private static void savedNoText() {
        c.sentence("except the text");
        CrochetRounds x = new CrochetRounds();
        Checks.write(x, "x6");
        x.begin(7);
        x.append(';');
        x.undo();
        c.due("a byte appended stays", x.judged(), 1);
        x.begin(7);
        c.due("cleared", x.clearText(), 3);
        x.undo();
        c.due("stays cleared", x.clearText(), 0);
    }

    private static CrochetRounds busy(String text) {
        CrochetRounds x = new CrochetRounds();
        x.setYarn(2, 5);
        x.addShape(4, 1, 39);
        x.rip(1);
        x.setSpiral(true);
        x.addRound(6);
        Checks.write(x, text);
        return x;
    }

    private static void thrownChangesNothing() {
        c.sentence("A call that throws an exception changes nothing.");
        for (String text : TOLD) {
            CrochetRounds x = busy(text);
            CrochetRounds twin = busy(text);
            throwAll(x);
            c.due("the text is as it was", x.judged(), twin.judged());
            for (int left = 3; left >= 0; left--) {
                c.due("the piece is as it was", x.digest(), twin.digest());
                c.due("the rounds are as they were", told(x), told(twin));
                c.due("a saved state more", x.undo(), left);
                twin.undo();
            }
            c.due("the text fits as it did", x.judged(), twin.judged());
            c.due("undo throws", Checks.thrown(() -> x.undo()), "IllegalStateException");
            c.due("undo changes nothing", x.digest(), twin.digest());
        }
        CrochetRounds full = new CrochetRounds();
        Checks.write(full, "x6;".repeat(40));
        c.due("a byte too many", Checks.thrown(() -> full.append('q')), "IllegalStateException");
        c.due("the text is as it was", full.judged(), 39);
    }

    private static void undo() {
        c.sentence("Restores the most recently saved state and removes it from the saved states. Returns the number of saved states"
            + " that remain.");
        CrochetRounds x = new CrochetRounds();
        for (int ring = 3; ring <= 6; ring++) {
            x.begin(ring);
        }
        for (int left = 3; left >= 0; left--) {
            c.due("left", x.undo(), left);
            c.due("ring", x.value(1), left == 0 ? 6 : left + 2);
        }
        x.begin(9);
        c.due("an undo is not undone", x.undo(), 0);
        c.sentence("Throws IllegalStateException if there is no saved state");
        c.dueThrow("all are undone", x, IllegalStateException.class, () -> x.undo());
        CrochetRounds y = new CrochetRounds();
        c.dueThrow("none was saved", y, IllegalStateException.class, () -> y.undo());
        y.begin(3);
        c.due("one is saved", y.undo(), 0);
        c.dueThrow("it was the only one", y, IllegalStateException.class, () -> y.undo());
    }

    private static void digestOfSmall() {
        c.sentence("Start with h = 3637 and, for each of the following values v, set h = 31 * h + v:");
        dueHash(new CrochetRounds(), 0, 0, 10, 20, 13);
        CrochetRounds x = Checks.told(4, "x1v1a1;");
        dueHash(x, 0, 2, 10, 20, 13);
        x.setYarn(0, 1);
        x.setYarn(1, 2);
        x.setYarn(2, 60);
        x.setSpiral(true);
        Checks.write(x, "q".repeat(120));
        dueHash(x, 120, 4, 1, 2, 60);
        x.undo();
        dueHash(x, 120, 3, 1, 2, 60);
    }

    private static void digestOfFull() {
        c.sentence("Returns the hash, with the overflow of long arithmetic ignored.");
        CrochetRounds x = Checks.stitches(120);
        x.addShape(2, 1, 39);
        dueHash(x, 0, 4, 10, 20, 13);
        dueHash(Checks.rounds(40), 0, 1, 10, 20, 13);
    }

    private static void dueHash(CrochetRounds x, int text, int saved, int... yarn) {
        long h = 31L * 3637 + text;
        for (int what = 0; what <= 7; what++) {
            h = 31 * h + x.value(what);
        }
        for (int length : yarn) {
            h = 31 * h + length;
        }
        for (int round = 0; round < x.value(0); round++) {
            for (int what = 0; what <= 10; what++) {
                h = 31 * h + x.round(round, what);
            }
            for (int work = 0; work < x.round(round, 1); work++) {
                h = 31 * h + x.work(round, work);
            }
        }
        c.due("digest", x.digest(), 31 * h + saved);
    }
}
