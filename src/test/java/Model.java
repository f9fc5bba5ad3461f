import java.util.ArrayDeque;
import java.util.ArrayList;
import java.util.Arrays;
import java.util.Deque;
import java.util.List;

/** The document once more, in lists and searches, to compare CrochetRounds with. */
final class Model {
    /** Rounds are words of the letters x, v and a; a state is never changed, only replaced. */
    private record State(List<String> rounds, List<Integer> yarn, boolean spiral) {
    }

    private State now = new State(List.of("xxxxxx"), List.of(10, 20, 13), false);
    private final Deque<State> saved = new ArrayDeque<>();
    private String text = "";

    private void replace(State next) {
        saved.addLast(now);
        if (saved.size() > 4) {
            saved.removeFirst();
        }
        now = next;
    }

    private static void need(boolean right, RuntimeException otherwise) {
        if (!right) {
            throw otherwise;
        }
    }

    private static void range(int value, int least, int most) {
        need(least <= value && value <= most, new IllegalArgumentException());
    }

    private List<String> with(String row) {
        List<String> rounds = new ArrayList<>(now.rounds());
        rounds.add(row);
        return rounds;
    }

    // ---- what a row is

    private static int total(String row) {
        return makers(row).size();
    }

    /** For each stitch the number of the work that made it. */
    private static List<Integer> makers(String row) {
        List<Integer> makers = new ArrayList<>();
        for (int i = 0; i < row.length(); i++) {
            makers.add(i);
            if (row.charAt(i) == 'v') {
                makers.add(i);
            }
        }
        return makers;
    }

    /** For each stitch of the round before the number of the work that uses it. */
    private static List<Integer> users(String row) {
        List<Integer> users = new ArrayList<>();
        for (int i = 0; i < row.length(); i++) {
            users.add(i);
            if (row.charAt(i) == 'a') {
                users.add(i);
            }
        }
        return users;
    }

    private static int stacked(String before, String row) {
        List<Integer> makers = makers(before);
        List<Integer> users = users(row);
        boolean[] stacked = new boolean[row.length()];
        for (int s = 0; s < users.size(); s++) {
            char kind = row.charAt(users.get(s));
            if (kind != 'x' && before.charAt(makers.get(s)) == kind) {
                stacked[users.get(s)] = true;
            }
        }
        int count = 0;
        for (boolean one : stacked) {
            count += one ? 1 : 0;
        }
        return count;
    }

    /** The k-th shaped work is the first at which (i + 1) * d / m reaches k. */
    private static String spreadRow(int works, int shaped, char kind) {
        char[] row = new char[works];
        Arrays.fill(row, 'x');
        for (int k = 1; k <= shaped; k++) {
            int i = 0;
            while ((i + 1) * shaped < k * works) {
                i++;
            }
            row[i] = kind;
        }
        return new String(row);
    }

    /** Null if the goal is not possible. */
    private static String unshifted(int n, int t) {
        if (t >= n) {
            return t - n <= n ? spreadRow(n, t - n, 'v') : null;
        }
        return 2 * (n - t) <= n ? spreadRow(t, n - t, 'a') : null;
    }

    private static String shifted(String row, int shift) {
        int s = shift % row.length();
        return row.substring(s) + row.substring(0, s);
    }

    private static String mirroredRow(int n, int t) {
        String plain = unshifted(n, t);
        if (plain == null) {
            return null;
        }
        char kind = t >= n ? 'v' : 'a';
        int d = Math.abs(t - n);
        int m = plain.length();
        if (d % 2 != 0 && m % 2 == 0) {
            return null;
        }
        String half = spreadRow(m / 2, d / 2, kind);
        String middle = m % 2 == 0 ? "" : d % 2 != 0 ? "" + kind : "x";
        return half + middle + new StringBuilder(half).reverse();
    }

    private String last() {
        return now.rounds().get(now.rounds().size() - 1);
    }

    private int first() {
        return now.rounds().get(0).length();
    }

    // ---- work

    int begin(int stitches) {
        range(stitches, 3, 12);
        int before = now.rounds().size();
        replace(new State(List.of("x".repeat(stitches)), now.yarn(), now.spiral()));
        return before;
    }

    private void needPossible(int goal, String row) {
        range(goal, 3, 120);
        need(now.rounds().size() < 40, new IllegalStateException());
        need(row != null, new UnsupportedOperationException());
    }

    private static int bestShift(String before, String plain) {
        int best = 0;
        for (int s = 0; s < plain.length(); s++) {
            if (stacked(before, shifted(plain, s)) < stacked(before, shifted(plain, best))) {
                best = s;
            }
        }
        return best;
    }

    int addRound(int goal) {
        String plain = unshifted(total(last()), goal);
        needPossible(goal, plain);
        int shift = bestShift(last(), plain);
        replace(new State(with(shifted(plain, shift)), now.yarn(), now.spiral()));
        return shift;
    }

    int addShifted(int goal, int shift) {
        String plain = unshifted(total(last()), goal);
        range(shift, 0, 119);
        needPossible(goal, plain);
        int stacked = stacked(last(), shifted(plain, shift));
        replace(new State(with(shifted(plain, shift)), now.yarn(), now.spiral()));
        return stacked;
    }

    int addMirrored(int goal) {
        range(goal, 3, 120);
        String row = mirroredRow(total(last()), goal);
        needPossible(goal, row);
        int stacked = stacked(last(), row);
        replace(new State(with(row), now.yarn(), now.spiral()));
        return stacked;
    }

    int addShape(int shape, int size, int rounds) {
        range(shape, 0, 4);
        range(size, 1, 20);
        range(rounds, 1, 39);
        List<String> next = new ArrayList<>(now.rounds());
        int before = next.size();
        while (next.size() < 40 && next.size() < before + rounds) {
            String behind = next.get(next.size() - 1);
            String plain = unshifted(total(behind), goal(shape, size, next.size()));
            if (plain == null) {
                break;
            }
            next.add(shifted(plain, bestShift(behind, plain)));
        }
        replace(new State(next, now.yarn(), now.spiral()));
        return next.size() - before;
    }

    int rip(int rounds) {
        need(rounds > 0, new IllegalArgumentException());
        need(rounds < now.rounds().size(), new IllegalStateException());
        List<String> left = now.rounds().subList(0, now.rounds().size() - rounds);
        replace(new State(new ArrayList<>(left), now.yarn(), now.spiral()));
        return total(last());
    }

    int setYarn(int kind, int length) {
        range(kind, 0, 2);
        range(length, 1, 60);
        int before = now.yarn().get(kind);
        List<Integer> yarn = new ArrayList<>(now.yarn());
        yarn.set(kind, length);
        replace(new State(now.rounds(), yarn, now.spiral()));
        return before;
    }

    boolean setSpiral(boolean spiral) {
        boolean before = now.spiral();
        replace(new State(now.rounds(), now.yarn(), spiral));
        return before;
    }

    // ---- values

    private String row(int round) {
        need(round >= 0 && round < now.rounds().size(), new IndexOutOfBoundsException());
        return now.rounds().get(round);
    }

    private static int count(String row, char kind) {
        return (int) row.chars().filter(c -> c == kind).count();
    }

    private static List<Integer> distances(String row) {
        List<Integer> places = new ArrayList<>();
        for (int i = 0; i < row.length(); i++) {
            if (row.charAt(i) != 'x') {
                places.add(i);
            }
        }
        List<Integer> distances = new ArrayList<>();
        for (int k = 0; k < places.size() && places.size() > 1; k++) {
            int next = places.get((k + 1) % places.size());
            distances.add(Math.floorMod(next - places.get(k) - 1, row.length()) + 1);
        }
        return distances;
    }

    int round(int round, int what) {
        String row = row(round);
        range(what, 0, 10);
        List<Integer> distances = distances(row);
        return switch (what) {
            case 0 -> total(row);
            case 1 -> row.length();
            case 2 -> count(row, 'x');
            case 3 -> count(row, 'v');
            case 4 -> count(row, 'a');
            case 5 -> round == 0 ? 0 : stacked(row(round - 1), row);
            case 6 -> new StringBuilder(row).reverse().toString().equals(row) ? 1 : 0;
            case 7 -> count(row, 'x') * now.yarn().get(0) + count(row, 'v') * now.yarn().get(1)
                + count(row, 'a') * now.yarn().get(2);
            case 8 -> distances.stream().reduce(0, Math::max);
            case 9 -> distances.stream().reduce(Math::min).orElse(0);
            default -> total(row) - first() * (round + 1);
        };
    }

    int work(int round, int work) {
        String row = row(round);
        need(work >= 0 && work < row.length(), new IndexOutOfBoundsException());
        return "xva".indexOf(row.charAt(work));
    }

    int maker(int round, int stitch) {
        List<Integer> makers = makers(row(round));
        need(stitch >= 0 && stitch < makers.size(), new IndexOutOfBoundsException());
        return makers.get(stitch);
    }

    int parent(int round, int stitch) {
        int maker = maker(round, stitch);
        return round == 0 ? -1 : users(row(round)).indexOf(maker);
    }

    int child(int round, int stitch) {
        maker(round, stitch);
        if (round == now.rounds().size() - 1) {
            return -1;
        }
        String next = row(round + 1);
        return makers(next).indexOf(users(next).get(stitch));
    }

    int root(int round, int stitch) {
        int parent = parent(round, stitch);
        return round == 0 ? stitch : root(round - 1, parent);
    }

    int place(int round, int stitch) {
        maker(round, stitch);
        int total = total(row(round));
        if (!now.spiral()) {
            return stitch * 1000 / total;
        }
        return ((2 * stitch + round) * 1000 / (2 * total)) % 1000;
    }

    private int sum(int what) {
        int sum = 0;
        for (int r = 0; r < now.rounds().size(); r++) {
            sum += round(r, what);
        }
        return sum;
    }

    int value(int what) {
        range(what, 0, 7);
        List<Integer> totals = now.rounds().stream().map(Model::total).toList();
        return switch (what) {
            case 0 -> totals.size();
            case 1 -> totals.get(totals.size() - 1);
            case 2 -> sum(0);
            case 3 -> sum(7);
            case 4 -> sum(5);
            case 5 -> sum(6);
            case 6 -> totals.indexOf(totals.stream().reduce(0, Math::max));
            default -> now.spiral() ? 1 : 0;
        };
    }

    int goal(int shape, int size, int round) {
        range(shape, 0, 4);
        range(size, 1, 20);
        range(round, 0, 39);
        long f = first();
        long raw = switch (shape) {
            case 0 -> f * (round + 1);
            case 1 -> f * List.of(round + 1, size, 3 * size - round).stream().reduce(99, Math::min);
            case 2 -> round == 0 ? f : 2 * goal(2, size, round - 1);
            case 3 -> f + (long) round * size;
            default -> f * (round + 1 < size ? round + 1 : size);
        };
        return (int) (raw > 120 ? 120 : raw < 3 ? 3 : raw);
    }

    // ---- what if

    int stacks(int goal, int shift) {
        range(goal, 3, 120);
        range(shift, 0, 119);
        String plain = unshifted(total(last()), goal);
        return plain == null ? -1 : stacked(last(), shifted(plain, shift));
    }

    /** A search over all totals, breadth first. */
    int roundsTo(int total, int most) {
        range(total, 3, 120);
        range(most, 1, 60);
        int[] rounds = new int[121];
        Arrays.fill(rounds, -1);
        rounds[total(last())] = 0;
        for (int done = 0; rounds[total] < 0; done++) {
            for (int n = 3; n <= 120; n++) {
                for (int t = 3; t <= 120 && rounds[n] == done; t++) {
                    boolean possible = t >= n ? t - n <= n : 2 * (n - t) <= n;
                    if (possible && Math.abs(t - n) <= most && rounds[t] < 0) {
                        rounds[t] = done + 1;
                    }
                }
            }
        }
        return rounds[total];
    }

    int nearestShape() {
        int best = -1;
        int least = Integer.MAX_VALUE;
        for (int number = 499; number >= 0; number--) {
            int sum = 0;
            if (number % 100 < 1 || number % 100 > 20) {
                continue;
            }
            for (int r = 0; r < now.rounds().size(); r++) {
                sum += Math.abs(total(row(r)) - goal(number / 100, number % 100, r));
            }
            if (sum <= least) {
                least = sum;
                best = number;
            }
        }
        return best;
    }

    double evenness(int round) {
        int greatest = round(round, 8);
        return greatest == 0 ? 0.0 : (double) round(round, 9) / (double) greatest;
    }

    // ---- text

    int append(int value) {
        range(value, 0, 127);
        need(text.length() < 120, new IllegalStateException());
        text += (char) value;
        return text.length();
    }

    int clearText() {
        int before = text.length();
        text = "";
        return before;
    }

    /** Byte by byte: what stands before position i tells which bytes can stand at i. */
    private int syntaxError() {
        for (int i = 0; i <= text.length(); i++) {
            String round = text.substring(text.lastIndexOf(';', i - 1) + 1, i);
            boolean end = i == text.length();
            char c = end ? '$' : text.charAt(i);
            int numberAt = i;
            while (numberAt > 0 && Character.isDigit(text.charAt(numberAt - 1))) {
                numberAt--;
            }
            String number = text.substring(numberAt, i);
            boolean repeat = round.indexOf('*') >= 0;
            if (!number.isEmpty() && !Character.isDigit(c)) {
                int n = Integer.parseInt(number);
                if (n < 1 || n > (repeat ? 60 : 120)) {
                    return numberAt;
                }
            }
            String canStand = canStand(round, number.length(), repeat);
            if (end && round.isEmpty()) {
                return -1;
            }
            if (end || canStand.indexOf(c) < 0) {
                return i;
            }
        }
        return -1;
    }

    private static String canStand(String round, int digits, boolean repeat) {
        if (round.isEmpty()) {
            return "xva";
        }
        if (digits == 0) {
            return "0123456789";
        }
        String more = digits < (repeat ? 2 : 3) ? "0123456789" : "";
        return more + (repeat ? ";" : "xva*;");
    }

    private static String toldRow(String told) {
        String[] parts = told.split("\\*");
        StringBuilder row = new StringBuilder();
        for (String item : parts[0].split("(?=[xva])")) {
            row.append(item.substring(0, 1).repeat(Integer.parseInt(item.substring(1))));
        }
        return row.toString().repeat(parts.length < 2 ? 1 : Integer.parseInt(parts[1]));
    }

    private List<String> fitting() {
        List<String> rounds = new ArrayList<>(now.rounds());
        for (String told : text.isEmpty() ? new String[0] : text.split(";")) {
            String row = toldRow(told);
            int total = total(row);
            int before = total(rounds.get(rounds.size() - 1));
            if (users(row).size() != before || total < 3 || total > 120 || rounds.size() >= 40) {
                break;
            }
            rounds.add(row);
        }
        return rounds;
    }

    int judged() {
        int error = syntaxError();
        return error >= 0 ? -10 - error : fitting().size() - now.rounds().size();
    }

    int carryOut() {
        int judged = judged();
        if (judged >= 0) {
            replace(new State(fitting(), now.yarn(), now.spiral()));
        }
        return judged;
    }

    // ---- state

    int undo() {
        need(!saved.isEmpty(), new IllegalStateException());
        now = saved.removeLast();
        return saved.size();
    }

    long digest() {
        List<Long> values = new ArrayList<>();
        values.add((long) text.length());
        for (int what = 0; what < 8; what++) {
            values.add((long) value(what));
        }
        for (int length : now.yarn()) {
            values.add((long) length);
        }
        for (int r = 0; r < now.rounds().size(); r++) {
            for (int what = 0; what < 11; what++) {
                values.add((long) round(r, what));
            }
            for (int i = 0; i < row(r).length(); i++) {
                values.add((long) work(r, i));
            }
        }
        values.add((long) saved.size());
        long h = 3637;
        for (long v : values) {
            h = 31 * h + v;
        }
        return h;
    }
}
