/** Counts the answers of a test; its main ends with end(), which gives the exit code. */
final class Checks {
    interface Call {
        Object answer();
    }

    private final String name;
    private int checked = 0;
    private int wrong = 0;

    Checks(String name) {
        this.name = name;
    }

    void due(String what, Object got, Object want) {
        checked++;
        if (!want.equals(got)) {
            wrong++;
            System.out.println(name + ": " + what + " answered " + got + ", due is " + want);
        }
    }

    void isTrue(String what, boolean got) {
        due(what, got, true);
    }

    /** The call throws just this exception, and the piece is as it was. */
    void dueThrow(String what, CrochetRounds x, Class<? extends Exception> want, Call call) {
        long before = x.digest();
        due(what, thrown(call), want.getSimpleName());
        due(what + " changes nothing", x.digest(), before);
    }

    static String thrown(Call call) {
        try {
            call.answer();
            return "nothing";
        } catch (RuntimeException e) {
            return e.getClass().getSimpleName();
        }
    }

    /** The kinds of a round's works, as the letters of the text. */
    static String row(CrochetRounds x, int round) {
        StringBuilder row = new StringBuilder();
        for (int i = 0; i < x.round(round, 1); i++) {
            row.append("xva".charAt(x.work(round, i)));
        }
        return row.toString();
    }

    static String totals(CrochetRounds x) {
        StringBuilder totals = new StringBuilder();
        for (int r = 0; r < x.value(0); r++) {
            totals.append(r == 0 ? "" : " ").append(x.round(r, 0));
        }
        return totals.toString();
    }

    static void write(CrochetRounds x, String text) {
        for (int i = 0; i < text.length(); i++) {
            x.append(text.charAt(i));
        }
    }

    static void rewrite(CrochetRounds x, String text) {
        x.clearText();
        write(x, text);
    }

    static CrochetRounds told(int ring, String text) {
        CrochetRounds x = new CrochetRounds();
        x.begin(ring);
        write(x, text);
        x.carryOut();
        x.clearText();
        return x;
    }

    void end() {
        System.out.println(name + ": " + checked + " checks, " + wrong + " wrong");
        if (wrong > 0 || checked == 0) {
            System.exit(1);
        }
    }
}
