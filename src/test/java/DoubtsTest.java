import java.util.Arrays;

/** Sentences that could be read in more than one way, in the plainest meaning of their words. */
public final class DoubtsTest {
    private static final int CALLS = 512;
    private static final Checks c = new Checks("DoubtsTest");

    public static void main(String[] args) {
        roundsTo();
        roundsToIsOfEachRound();
        distances();
        distancesAreOfWorks();
        c.end();
    }

    /** The fewest rounds to each total, by a search through all of them. */
    private static int[] fewest(int from, int most) {
        int[] rounds = new int[121];
        int[] reached = new int[121];
        Arrays.fill(rounds, -1);
        rounds[from] = 0;
        reached[0] = from;
        int count = 1;
        for (int i = 0; i < count; i++) {
            int n = reached[i];
            for (int t = 3; t <= 120; t++) {
                int d = Math.abs(t - n);
                boolean possible = t >= n ? d <= n : 2 * d <= n;
                if (possible && d <= most && rounds[t] < 0) {
                    rounds[t] = rounds[n] + 1;
                    reached[count++] = t;
                }
            }
        }
        return rounds;
    }

    private static void roundsTo() {
        c.sentence("Tells in how many rounds a total could be reached, each of them possible behind the one before,"
            + " with at most some shaped works. (all totals)");
        for (int from = 3; from <= 120; from++) {
            for (int most = 1; most <= 60; most++) {
                CrochetRounds x = Checks.stitches(from);
                int[] want = fewest(from, most);
                int wrong = 0;
                for (int total = 3; total <= 120; total++) {
                    wrong += x.roundsTo(total, most) == want[total] ? 0 : 1;
                }
                c.due("wrong answers of roundsTo behind " + from + " with " + most, wrong, 0);
            }
        }
    }

    /** So many rounds can be worked, and no round of them has more shaped works. */
    private static void roundsToIsOfEachRound() {
        c.sentence("each of them possible behind the one before, with at most some shaped works.");
        for (int most : new int[] {1, 2, 3, 5, 8, 60}) {
            CrochetRounds x = new CrochetRounds();
            int want = x.roundsTo(40, most);
            while (x.value(1) < 40) {
                int n = x.value(1);
                x.addRound(Math.min(40, n + Math.min(n, most)));
                int last = x.value(0) - 1;
                c.isTrue("shaped works of round " + last, x.round(last, 3) + x.round(last, 4) <= most);
            }
            c.due("rounds with at most " + most + " shaped works each", x.value(0) - 1, want);
        }
    }

    private static void distances() {
        c.sentence("8 the greatest distance, 9 the least distance (of each shaped work to the next shaped one, round the row;"
            + " 0 with fewer than two shaped works) (all rows of 9 singles and increases)");
        CrochetRounds x = new CrochetRounds();
        int calls = CALLS;
        for (int shaped = 0; shaped < 1 << 9; shaped++) {
            if (calls > CALLS - 60) {
                x = new CrochetRounds();
                x.begin(9);
                calls = 1;
            }
            String row = row(shaped);
            String told = row.replace("x", "x1").replace("v", "v1") + ";";
            Checks.rewrite(x, told);
            c.due("carryOut of " + row, x.carryOut(), 1);
            int[] want = extremes(row);
            c.due("greatest of " + row, x.round(1, 8), want[0]);
            c.due("least of " + row, x.round(1, 9), want[1]);
            x.undo();
            calls += told.length() + 5;
        }
    }

    private static String row(int shaped) {
        StringBuilder row = new StringBuilder();
        for (int i = 0; i < 9; i++) {
            row.append((shaped >> i & 1) == 1 ? 'v' : 'x');
        }
        return row.toString();
    }

    /** From each shaped work on, step by step round the row, until there is a shaped one again. */
    private static int[] extremes(String row) {
        if (row.replace("x", "").length() < 2) {
            return new int[] {0, 0};
        }
        int[] extremes = {0, row.length()};
        for (int i = 0; i < row.length(); i++) {
            int steps = 1;
            while (row.charAt((i + steps) % row.length()) == 'x') {
                steps++;
            }
            if (row.charAt(i) != 'x') {
                extremes[0] = Math.max(extremes[0], steps);
                extremes[1] = Math.min(extremes[1], steps);
            }
        }
        return extremes;
    }

    /** An increase makes two stitches and a decrease uses two, but each is one work of the row. */
    private static void distancesAreOfWorks() {
        c.sentence("of each shaped work to the next shaped one, round the row");
        CrochetRounds up = Checks.told(6, "v2x4;");
        c.due("least: next to each other, not two stitches", up.round(1, 9), 1);
        c.due("greatest: 5 of 6 works, not 6 of 8 stitches", up.round(1, 8), 5);
        CrochetRounds down = Checks.told(8, "a2x4;");
        c.due("least: next to each other, not two stitches of the round before", down.round(1, 9), 1);
        c.due("greatest: 5 of 6 works, not 6 of 8 stitches of the round before", down.round(1, 8), 5);
        CrochetRounds mixed = Checks.told(8, "v1x2a1x3;");
        c.due("least between an increase and a decrease", mixed.round(1, 9), 3);
        c.due("greatest between a decrease and an increase", mixed.round(1, 8), 4);
    }
}
