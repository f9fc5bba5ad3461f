import java.util.function.Supplier;

/** Counts the answers of a test; its main ends with end(), which gives the exit code. */
final class Checks {
    interface Call {
        Object answer();
    }

    /** A call on a piece with one argument that is tried at its edges. */
    interface Ranged {
        Object answer(CrochetRounds x, int argument);
    }

    private final String name;
    private String sentence = "";
    private int checkedBefore = 0;
    private int checked = 0;
    private int wrong = 0;

    Checks(String name) {
        this.name = name;
    }

    /** The words of ../shared/DOC.md that the checks from here on would see broken. */
    void sentence(String words) {
        endSentence();
        sentence = words;
        checkedBefore = checked;
    }

    private void endSentence() {
        if (!sentence.isEmpty() && checked == checkedBefore) {
            wrong++;
            System.out.println(name + ": nothing is checked of: " + sentence);
        }
    }

    void due(String what, Object got, Object want) {
        checked++;
        if (!want.equals(got)) {
            wrong++;
            System.out.println(name + ": " + what + " answered " + got + ", due is " + want);
            if (!sentence.isEmpty()) {
                System.out.println("    where the document says: " + sentence);
            }
        }
    }

    void isTrue(String what, boolean got) {
        due(what, got, true);
    }

    void dueRow(CrochetRounds x, int round, String want) {
        due("row of round " + round, row(x, round), want);
    }

    void dueTotals(CrochetRounds x, String want) {
        due("totals", totals(x), want);
    }

    /** The call throws just this exception, and the piece is as it was. */
    void dueThrow(String what, CrochetRounds x, Class<? extends Exception> want, Call call) {
        long before = x.digest();
        due(what, thrown(call), want.getSimpleName());
        due(what + " changes nothing", x.digest(), before);
    }

    /** The argument is taken from least to most, and refused just outside and far off. */
    void dueRange(String what, Supplier<CrochetRounds> fresh, int least, int most, Ranged call) {
        for (int right : new int[] {least, most}) {
            CrochetRounds x = fresh.get();
            due(what + " with " + right, thrown(() -> call.answer(x, right)), "nothing");
        }
        dueRefused(what, fresh.get(), call, Integer.MIN_VALUE, least - 1, most + 1, Integer.MAX_VALUE);
    }

    void dueRefused(String what, CrochetRounds x, Ranged call, int... wrongOnes) {
        for (int wrongOne : wrongOnes) {
            dueThrow(what + " with " + wrongOne, x, IllegalArgumentException.class, () -> call.answer(x, wrongOne));
        }
    }

    /** The index is taken from 0 to count - 1, and refused just outside and far off. */
    void dueIndex(String what, CrochetRounds x, int count, Ranged call) {
        for (int right : new int[] {0, count - 1}) {
            due(what + " with " + right, thrown(() -> call.answer(x, right)), "nothing");
        }
        for (int wrongOne : new int[] {Integer.MIN_VALUE, -1, count, Integer.MAX_VALUE}) {
            dueThrow(what + " with " + wrongOne, x, IndexOutOfBoundsException.class, () -> call.answer(x, wrongOne));
        }
    }

    static String thrown(Call call) {
        try {
            call.answer();
            return "nothing";
        } catch (RuntimeException e) {
            return e.getClass().getSimpleName();
        }
    }

    /** The kinds of a round's works, as the letters of the text. */
    static String row(CrochetRounds x, int round) {
        StringBuilder row = new StringBuilder();
        for (int i = 0; i < x.round(round, 1); i++) {
            row.append("xva".charAt(x.work(round, i)));
        }
        return row.toString();
    }

    static String totals(CrochetRounds x) {
        StringBuilder totals = new StringBuilder();
        for (int r = 0; r < x.value(0); r++) {
            totals.append(r == 0 ? "" : " ").append(x.round(r, 0));
        }
        return totals.toString();
    }

    static void write(CrochetRounds x, String text) {
        for (int i = 0; i < text.length(); i++) {
            x.append(text.charAt(i));
        }
    }

    static void rewrite(CrochetRounds x, String text) {
        x.clearText();
        write(x, text);
    }

    static CrochetRounds told(int ring, String text) {
        CrochetRounds x = new CrochetRounds();
        x.begin(ring);
        write(x, text);
        x.carryOut();
        x.clearText();
        return x;
    }

    /** A new piece made longer, by rounds of 6 singles. */
    static CrochetRounds rounds(int rounds) {
        CrochetRounds x = new CrochetRounds();
        if (rounds > 1) {
            x.addShape(4, 1, rounds - 1);
        }
        return x;
    }

    /** A piece whose last round has this total, 3 to 120. */
    static CrochetRounds stitches(int total) {
        CrochetRounds x = new CrochetRounds();
        x.begin(Math.min(12, total));
        while (x.value(1) < total) {
            x.addRound(Math.min(2 * x.value(1), total));
        }
        return x;
    }

    void end() {
        endSentence();
        System.out.println(name + ": " + checked + " checks, " + wrong + " wrong");
        if (wrong > 0 || checked == 0) {
            System.exit(1);
        }
    }
}
