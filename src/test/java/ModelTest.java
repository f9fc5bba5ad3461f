/** Runs of up to 512 calls, the same whenever the test runs, answered alike by class and model. */
public final class ModelTest {
    private static final int RUNS = 400;
    private static final int MOST_CALLS = 512;
    /** One step makes at most so many calls: a text of 130 bytes and what is done with it. */
    private static final int CALLS_OF_STEP = 135;
    private static final int[] EXTREME = {Integer.MIN_VALUE, Integer.MAX_VALUE, -1, 121, 128, 1 << 30, -120};
    private static final Checks c = new Checks("ModelTest");

    private CrochetRounds x = new CrochetRounds();
    private Model model = new Model();
    private long seed;
    private int calls = 0;

    private ModelTest(long seed) {
        this.seed = seed;
    }

    public static void main(String[] args) {
        for (int run = 0; run < RUNS; run++) {
            new ModelTest(run).run();
        }
        c.end();
    }

    private int below(int bound) {
        seed = seed * 6364136223846793005L + 1442695040888963407L;
        return (int) ((seed >>> 33) % bound);
    }

    /** Mostly from least to most, now and then just outside or far off. */
    private int from(int least, int most) {
        int dice = below(60);
        if (dice == 0) {
            return EXTREME[below(EXTREME.length)];
        }
        if (dice == 1) {
            return below(2) == 0 ? least - 1 : most + 1;
        }
        if (dice == 2) {
            return below(2) == 0 ? least : most;
        }
        return least + below(most - least + 1);
    }

    /** Goals that are often possible. */
    private int aGoal() {
        int n = model.value(1);
        return below(6) == 0 ? from(3, 120) : from(Math.max(3, (n + 1) / 2), Math.min(120, 2 * n));
    }

    private int aRound() {
        return from(0, model.value(0) - 1);
    }

    private void run() {
        while (calls < MOST_CALLS - CALLS_OF_STEP - 2) {
            step();
            if (below(16) == 0) {
                alike("digest()", () -> x.digest(), () -> model.digest());
            }
        }
        alike("digest() at the end", () -> x.digest(), () -> model.digest());
    }

    private void alike(String what, Checks.Call got, Checks.Call want) {
        calls++;
        Object[] answers = new Object[2];
        String thrown = Checks.thrown(() -> answers[0] = got.answer());
        String due = Checks.thrown(() -> answers[1] = want.answer());
        c.due(what + " throws", thrown, due);
        if (thrown.equals("nothing") && due.equals("nothing")) {
            c.due(what, answers[0], answers[1]);
        }
    }

    private void step() {
        int dice = below(100);
        if (dice < 45) {
            work(dice);
        } else if (dice < 75) {
            values(dice - 45);
        } else if (dice < 83) {
            text();
        } else if (dice < 90) {
            alike("undo()", () -> x.undo(), () -> model.undo());
        } else {
            whatIf(dice - 90);
        }
    }

    private void work(int dice) {
        if (dice < 3) {
            int n = from(3, 12);
            alike("begin(" + n + ")", () -> x.begin(n), () -> model.begin(n));
        } else if (dice < 18) {
            int g = aGoal();
            alike("addRound(" + g + ")", () -> x.addRound(g), () -> model.addRound(g));
        } else if (dice < 24) {
            int g = aGoal();
            int s = from(0, 119);
            alike("addShifted(" + g + ", " + s + ")", () -> x.addShifted(g, s), () -> model.addShifted(g, s));
        } else if (dice < 32) {
            int g = aGoal();
            alike("addMirrored(" + g + ")", () -> x.addMirrored(g), () -> model.addMirrored(g));
        } else if (dice < 35) {
            int shape = from(0, 4);
            int size = from(1, 20);
            int rounds = from(1, below(3) == 0 ? 39 : 6);
            alike("addShape(" + shape + ", " + size + ", " + rounds + ")",
                () -> x.addShape(shape, size, rounds), () -> model.addShape(shape, size, rounds));
        } else if (dice < 38) {
            int n = from(1, below(4) == 0 ? 40 : 5);
            alike("rip(" + n + ")", () -> x.rip(n), () -> model.rip(n));
        } else if (dice < 42) {
            int kind = from(0, 2);
            int length = from(1, 60);
            alike("setYarn(" + kind + ", " + length + ")", () -> x.setYarn(kind, length), () -> model.setYarn(kind, length));
        } else {
            boolean spiral = below(2) == 0;
            alike("setSpiral(" + spiral + ")", () -> x.setSpiral(spiral), () -> model.setSpiral(spiral));
        }
    }

    private void values(int dice) {
        int r = aRound();
        boolean exists = r >= 0 && r < model.value(0);
        if (dice < 8) {
            int what = from(0, 10);
            alike("round(" + r + ", " + what + ")", () -> x.round(r, what), () -> model.round(r, what));
        } else if (dice < 11) {
            int w = from(0, exists ? model.round(r, 1) - 1 : 5);
            alike("work(" + r + ", " + w + ")", () -> x.work(r, w), () -> model.work(r, w));
        } else if (dice < 26) {
            ofStitch(dice % 5, r, from(0, exists ? model.round(r, 0) - 1 : 5));
        } else {
            int what = from(0, 7);
            alike("value(" + what + ")", () -> x.value(what), () -> model.value(what));
        }
    }

    private void ofStitch(int which, int r, int s) {
        String args = "(" + r + ", " + s + ")";
        switch (which) {
            case 0: alike("maker" + args, () -> x.maker(r, s), () -> model.maker(r, s)); break;
            case 1: alike("parent" + args, () -> x.parent(r, s), () -> model.parent(r, s)); break;
            case 2: alike("child" + args, () -> x.child(r, s), () -> model.child(r, s)); break;
            case 3: alike("root" + args, () -> x.root(r, s), () -> model.root(r, s)); break;
            default: alike("place" + args, () -> x.place(r, s), () -> model.place(r, s)); break;
        }
    }

    private void whatIf(int dice) {
        if (dice < 2) {
            int shape = from(0, 4);
            int size = from(1, 20);
            int r = from(0, 39);
            alike("goal(" + shape + ", " + size + ", " + r + ")",
                () -> x.goal(shape, size, r), () -> model.goal(shape, size, r));
        } else if (dice < 5) {
            int g = aGoal();
            int s = from(0, 119);
            alike("stacks(" + g + ", " + s + ")", () -> x.stacks(g, s), () -> model.stacks(g, s));
        } else if (dice < 7) {
            int total = from(3, 120);
            int most = from(1, 60);
            alike("roundsTo(" + total + ", " + most + ")",
                () -> x.roundsTo(total, most), () -> model.roundsTo(total, most));
        } else if (dice < 8) {
            alike("nearestShape()", () -> x.nearestShape(), () -> model.nearestShape());
        } else {
            int r = aRound();
            alike("evenness(" + r + ")", () -> x.evenness(r), () -> model.evenness(r));
        }
    }

    private void text() {
        if (below(3) > 0) {
            alike("clearText()", () -> x.clearText(), () -> model.clearText());
        }
        String text = below(3) == 0 ? noise() : told();
        for (int i = 0; i < text.length(); i++) {
            int value = text.charAt(i);
            alike("append(" + value + ")", () -> x.append(value), () -> model.append(value));
        }
        alike("judged() of " + text, () -> x.judged(), () -> model.judged());
        alike("carryOut() of " + text, () -> x.carryOut(), () -> model.carryOut());
    }

    private String noise() {
        StringBuilder noise = new StringBuilder();
        int length = below(below(5) == 0 ? 130 : 12);
        for (int i = 0; i < length; i++) {
            if (below(50) == 0) {
                noise.append((char) below(130));
            } else {
                noise.append("xxvva001126;;*".charAt(below(14)));
            }
        }
        return noise.toString();
    }

    /** Told rounds that mostly fit, one of their bytes changed now and then. */
    private String told() {
        StringBuilder told = new StringBuilder();
        int total = model.value(1);
        for (int i = below(4); i >= 0 && total >= 2; i--) {
            int times = 1;
            for (int t = 2; t <= 12; t++) {
                times = total % t == 0 && below(4) == 0 ? t : times;
            }
            int next = items(told, total / times) * times;
            told.append(times > 1 ? "*" + (times < 10 && below(2) == 0 ? "0" : "") + times : "").append(';');
            total = next;
        }
        if (below(4) == 0 && told.length() > 0) {
            told.setCharAt(below(told.length()), "xva*;0129 ".charAt(below(10)));
        }
        if (below(6) == 0 && told.length() > 0) {
            told.setLength(below(told.length()));
        }
        return told.toString();
    }

    /** Items that use up some stitches exactly, or one too many. Answers how many they make. */
    private int items(StringBuilder told, int stitches) {
        int left = stitches;
        int made = 0;
        while (left > 0) {
            int kind = left == 1 && below(20) > 0 ? below(2) : below(3);
            int uses = kind == 2 ? 2 : 1;
            int count = 1 + below(Math.max(1, left / uses));
            told.append("xva".charAt(kind)).append(below(5) == 0 ? "0" : "").append(count);
            left -= count * uses;
            made += count * (kind == 1 ? 2 : 1);
        }
        return made;
    }
}
