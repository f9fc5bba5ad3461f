/** A piece of crochet in rounds, as ../shared/DOC.md promises it. */
public final class CrochetRounds {
    public static final int NONE = -1;

    private static final int SINGLE = 0;
    private static final int INCREASE = 1;
    private static final int DECREASE = 2;
    private static final int KINDS = 3;

    private static final int MOST_ROUNDS = 40;
    private static final int LEAST_STITCHES = 3;
    private static final int MOST_STITCHES = 120;
    private static final int MOST_RING = 12;
    private static final int FIRST_RING = 6;
    private static final int MOST_YARN = 60;
    private static final int MOST_SHAPED = 60;
    private static final int MOST_SAVED = 4;

    private static final int DISH = 0;
    private static final int BALL = 1;
    private static final int RUFFLE = 2;
    private static final int CONE = 3;
    private static final int TUBE = 4;
    private static final int MOST_SIZE = 20;

    private static final int ROUND_TOTAL = 0;
    private static final int ROUND_WORKS = 1;
    private static final int ROUND_SINGLES = 2;
    private static final int ROUND_INCREASES = 3;
    private static final int ROUND_DECREASES = 4;
    private static final int ROUND_STACKED = 5;
    private static final int ROUND_MIRRORED = 6;
    private static final int ROUND_YARN = 7;
    private static final int ROUND_GREATEST = 8;
    private static final int ROUND_LEAST = 9;
    private static final int ROUND_EXCESS = 10;

    private static final int VALUE_ROUNDS = 0;
    private static final int VALUE_TOTAL = 1;
    private static final int VALUE_STITCHES = 2;
    private static final int VALUE_YARN = 3;
    private static final int VALUE_STACKED = 4;
    private static final int VALUE_MIRRORED = 5;
    private static final int VALUE_WIDEST = 6;
    private static final int VALUE_SPIRAL = 7;

    private static final int MOST_BYTES = 120;
    private static final int MOST_BYTE = 127;
    private static final int MOST_ITEMS = 60;
    private static final int ITEM_DIGITS = 3;
    private static final int MOST_IN_ITEM = 120;
    private static final int TIMES_DIGITS = 2;
    private static final int MOST_TIMES = 60;
    private static final int ERROR_BASE = -10;

    private static final int TURN = 1000;
    private static final long DIGEST_START = 3637L;

    private final Piece piece = new Piece();
    private final History history = new History();
    private final Pattern pattern = new Pattern();
    private final Plan plan = new Plan();
    private final Makers makers = new Makers();

    public CrochetRounds() {
        piece.yarn.put(SINGLE, 10);
        piece.yarn.put(INCREASE, 20);
        piece.yarn.put(DECREASE, 13);
        piece.startRing(FIRST_RING);
    }

    // ---- work

    public int begin(int stitches) throws IllegalArgumentException {
        checkArgument(stitches >= LEAST_STITCHES && stitches <= MOST_RING);
        int before = piece.rounds;
        history.keep(piece);
        piece.startRing(stitches);
        return before;
    }

    public int addRound(int goal) throws IllegalArgumentException, IllegalStateException, UnsupportedOperationException {
        checkArgument(isGoal(goal));
        checkRoom();
        checkPossible(plan.spread(piece.lastTotal(), goal));
        history.keep(piece);
        return addBest();
    }

    public int addShifted(int goal, int shift) throws IllegalArgumentException, IllegalStateException, UnsupportedOperationException {
        checkArgument(isGoal(goal) && isShift(shift));
        checkRoom();
        checkPossible(plan.spread(piece.lastTotal(), goal));
        history.keep(piece);
        return addPlanned(shift);
    }

    public int addMirrored(int goal) throws IllegalArgumentException, IllegalStateException, UnsupportedOperationException {
        checkArgument(isGoal(goal));
        checkRoom();
        checkPossible(plan.mirror(piece.lastTotal(), goal));
        history.keep(piece);
        return addPlanned(0);
    }

    public int addShape(int shape, int size, int rounds) throws IllegalArgumentException {
        checkArgument(isShape(shape) && isSize(size));
        checkArgument(rounds >= 1 && rounds < MOST_ROUNDS);
        history.keep(piece);
        int added = 0;
        while (added < rounds && piece.rounds < MOST_ROUNDS) {
            int next = shapeGoal(shape, size, piece.rounds);
            if (!plan.spread(piece.lastTotal(), next)) {
                return added;
            }
            addBest();
            added++;
        }
        return added;
    }

    public int rip(int rounds) throws IllegalArgumentException, IllegalStateException {
        checkArgument(rounds >= 1);
        checkState(rounds < piece.rounds);
        history.keep(piece);
        piece.rounds -= rounds;
        return piece.lastTotal();
    }

    public int setYarn(int kind, int length) throws IllegalArgumentException {
        checkArgument(kind >= 0 && kind < KINDS && length >= 1 && length <= MOST_YARN);
        history.keep(piece);
        int before = piece.yarn.at(kind);
        piece.yarn.put(kind, length);
        return before;
    }

    public boolean setSpiral(boolean spiral) {
        history.keep(piece);
        boolean before = piece.spiral;
        piece.spiral = spiral;
        return before;
    }

    // ---- values

    public int round(int round, int what) throws IndexOutOfBoundsException, IllegalArgumentException {
        checkIndex(round, piece.rounds);
        checkArgument(what >= ROUND_TOTAL && what <= ROUND_EXCESS);
        return ofRound(round, what);
    }

    public int work(int round, int work) throws IndexOutOfBoundsException {
        checkIndex(round, piece.rounds);
        checkIndex(work, piece.works.at(round));
        return piece.kindOf(round, work);
    }

    public int maker(int round, int stitch) throws IndexOutOfBoundsException {
        checkStitch(round, stitch);
        return piece.makerOf(round, stitch);
    }

    public int parent(int round, int stitch) throws IndexOutOfBoundsException {
        checkStitch(round, stitch);
        return round == 0 ? NONE : piece.parentOf(round, stitch);
    }

    public int child(int round, int stitch) throws IndexOutOfBoundsException {
        checkStitch(round, stitch);
        return round == piece.rounds - 1 ? NONE : piece.childOf(round, stitch);
    }

    public int root(int round, int stitch) throws IndexOutOfBoundsException {
        checkStitch(round, stitch);
        int reached = stitch;
        for (int r = round; r > 0; r--) {
            reached = piece.parentOf(r, reached);
        }
        return reached;
    }

    public int place(int round, int stitch) throws IndexOutOfBoundsException {
        checkStitch(round, stitch);
        int total = piece.totals.at(round);
        if (total <= 0) {
            return 0;
        }
        if (piece.spiral) {
            return (2 * stitch + round) * TURN / (2 * total) % TURN;
        }
        return stitch * TURN / total;
    }

    public int value(int what) throws IllegalArgumentException {
        checkArgument(what >= VALUE_ROUNDS && what <= VALUE_SPIRAL);
        switch (what) {
            case VALUE_ROUNDS: return piece.rounds;
            case VALUE_TOTAL: return piece.lastTotal();
            case VALUE_STITCHES: return sumOverRounds(ROUND_TOTAL);
            case VALUE_YARN: return sumOverRounds(ROUND_YARN);
            case VALUE_STACKED: return sumOverRounds(ROUND_STACKED);
            case VALUE_MIRRORED: return sumOverRounds(ROUND_MIRRORED);
            case VALUE_WIDEST: return piece.widest();
            default: return piece.spiral ? 1 : 0;
        }
    }

    public int goal(int shape, int size, int round) throws IllegalArgumentException {
        checkArgument(isShape(shape) && isSize(size));
        checkArgument(round >= 0 && round < MOST_ROUNDS);
        return shapeGoal(shape, size, round);
    }

    // ---- what if

    public int stacks(int goal, int shift) throws IllegalArgumentException {
        checkArgument(isGoal(goal) && isShift(shift));
        if (!plan.spread(piece.lastTotal(), goal)) {
            return NONE;
        }
        makers.load(piece, piece.rounds - 1);
        return makers.stackedIn(plan.row, 0, plan.works, shift);
    }

    public int roundsTo(int total, int most) throws IllegalArgumentException {
        checkArgument(isGoal(total) && most >= 1 && most <= MOST_SHAPED);
        int stitches = piece.lastTotal();
        int rounds = 0;
        while (stitches != total && rounds < MOST_STITCHES) {
            stitches = nearestTo(total, stitches, most);
            rounds++;
        }
        return rounds;
    }

    public int nearestShape() {
        int best = NONE;
        int least = 0;
        for (int shape = DISH; shape <= TUBE; shape++) {
            for (int size = 1; size <= MOST_SIZE; size++) {
                int sum = differences(shape, size);
                if (best == NONE || sum < least) {
                    best = 100 * shape + size;
                    least = sum;
                }
            }
        }
        return best;
    }

    public double evenness(int round) throws IndexOutOfBoundsException {
        checkIndex(round, piece.rounds);
        int greatest = piece.distance(round, true);
        if (greatest <= 0) {
            return 0.0;
        }
        return (double) piece.distance(round, false) / (double) greatest;
    }

    // ---- text

    public int append(int value) throws IllegalArgumentException, IllegalStateException {
        checkArgument(value >= 0 && value <= MOST_BYTE);
        checkState(pattern.length < MOST_BYTES);
        pattern.bytes.put(pattern.length, value);
        pattern.length++;
        return pattern.length;
    }

    public int clearText() {
        int before = pattern.length;
        pattern.length = 0;
        return before;
    }

    public int judged() {
        int error = pattern.syntaxError();
        return error == NONE ? fittingRounds() : ERROR_BASE - error;
    }

    public int carryOut() {
        int error = pattern.syntaxError();
        if (error != NONE) {
            return ERROR_BASE - error;
        }
        history.keep(piece);
        int fitting = fittingRounds();
        pattern.rewind();
        for (int i = 0; i < fitting; i++) {
            pattern.readRound();
            addTold();
        }
        return fitting;
    }

    // ---- state

    public int undo() throws IllegalStateException {
        checkState(history.size > 0);
        history.restore(piece);
        return history.size;
    }

    public long digest() {
        long h = mixed(DIGEST_START, pattern.length);
        for (int what = VALUE_ROUNDS; what <= VALUE_SPIRAL; what++) {
            h = mixed(h, value(what));
        }
        for (int kind = 0; kind < KINDS; kind++) {
            h = mixed(h, piece.yarn.at(kind));
        }
        for (int round = 0; round < piece.rounds; round++) {
            h = mixedRound(h, round);
        }
        return mixed(h, history.size);
    }

    // ---- checks: each throws what the document names

    private static void checkArgument(boolean right) {
        if (!right) {
            throw new IllegalArgumentException("an argument is out of range");
        }
    }

    private static void checkState(boolean right) {
        if (!right) {
            throw new IllegalStateException("not in this state");
        }
    }

    private void checkRoom() {
        checkState(piece.rounds < MOST_ROUNDS);
    }

    private static void checkPossible(boolean possible) {
        if (!possible) {
            throw new UnsupportedOperationException("the goal is not possible");
        }
    }

    private static void checkIndex(int index, int count) {
        if (index < 0 || index >= count) {
            throw new IndexOutOfBoundsException("there is no such thing");
        }
    }

    private void checkStitch(int round, int stitch) {
        checkIndex(round, piece.rounds);
        checkIndex(stitch, piece.totals.at(round));
    }

    private static boolean isGoal(int goal) {
        return goal >= LEAST_STITCHES && goal <= MOST_STITCHES;
    }

    private static boolean isShift(int shift) {
        return shift >= 0 && shift < MOST_STITCHES;
    }

    private static boolean isShape(int shape) {
        return shape >= DISH && shape <= TUBE;
    }

    private static boolean isSize(int size) {
        return size >= 1 && size <= MOST_SIZE;
    }

    // ---- helpers of the work

    private int addBest() {
        makers.load(piece, piece.rounds - 1);
        int shift = makers.bestShift(plan);
        addRow(shift);
        return shift;
    }

    private int addPlanned(int shift) {
        makers.load(piece, piece.rounds - 1);
        int stacked = makers.stackedIn(plan.row, 0, plan.works, shift);
        addRow(shift);
        return stacked;
    }

    private void addRow(int shift) {
        int works = plan.works;
        piece.openRound();
        for (int i = 0; i < works; i++) {
            piece.addWork(plan.row.at((i + shift) % works));
        }
        piece.closeRound();
    }

    private void addTold() {
        piece.openRound();
        for (int time = 0; time < pattern.times; time++) {
            for (int item = 0; item < pattern.items; item++) {
                int kind = pattern.itemKinds.at(item);
                int count = pattern.itemCounts.at(item);
                for (int i = 0; i < count; i++) {
                    piece.addWork(kind);
                }
            }
        }
        piece.closeRound();
    }

    // ---- helpers of the values

    private int ofRound(int round, int what) {
        switch (what) {
            case ROUND_TOTAL: return piece.totals.at(round);
            case ROUND_WORKS: return piece.works.at(round);
            case ROUND_SINGLES: return piece.countOf(round, SINGLE);
            case ROUND_INCREASES: return piece.countOf(round, INCREASE);
            case ROUND_DECREASES: return piece.countOf(round, DECREASE);
            case ROUND_STACKED: return stackedOf(round);
            case ROUND_MIRRORED: return piece.isMirrored(round) ? 1 : 0;
            case ROUND_YARN: return piece.yarnOf(round);
            case ROUND_GREATEST: return piece.distance(round, true);
            case ROUND_LEAST: return piece.distance(round, false);
            default: return piece.totals.at(round) - piece.totals.at(0) * (round + 1);
        }
    }

    private int stackedOf(int round) {
        if (round == 0) {
            return 0;
        }
        makers.load(piece, round - 1);
        return makers.stackedIn(piece.kinds, round * MOST_STITCHES, piece.works.at(round), 0);
    }

    private int sumOverRounds(int what) {
        int sum = 0;
        for (int round = 0; round < piece.rounds; round++) {
            sum += ofRound(round, what);
        }
        return sum;
    }

    private int shapeGoal(int shape, int size, int round) {
        int raw = rawGoal(piece.totals.at(0), shape, size, round);
        return Math.max(LEAST_STITCHES, Math.min(MOST_STITCHES, raw));
    }

    private static int rawGoal(int first, int shape, int size, int round) {
        switch (shape) {
            case DISH: return first * (round + 1);
            case BALL: return first * Math.min(Math.min(round + 1, size), 3 * size - round);
            case RUFFLE: return doubled(first, round);
            case CONE: return first + round * size;
            default: return first * Math.min(round + 1, size);
        }
    }

    /** Stops above the greatest goal, as more doubling could overflow. */
    private static int doubled(int first, int times) {
        int result = first;
        for (int i = 0; i < times && result <= MOST_STITCHES; i++) {
            result *= 2;
        }
        return result;
    }

    private int differences(int shape, int size) {
        int sum = 0;
        for (int round = 0; round < piece.rounds; round++) {
            sum += Math.abs(piece.totals.at(round) - shapeGoal(shape, size, round));
        }
        return sum;
    }

    /** Going as far as possible is best: from further on, no total is further away. */
    private static int nearestTo(int total, int stitches, int most) {
        if (total > stitches) {
            return Math.min(total, stitches + Math.min(stitches, most));
        }
        return Math.max(total, stitches - Math.min(stitches / 2, most));
    }

    private static long mixed(long h, int v) {
        return 31L * h + v;
    }

    private long mixedRound(long start, int round) {
        long h = start;
        for (int what = ROUND_TOTAL; what <= ROUND_EXCESS; what++) {
            h = mixed(h, ofRound(round, what));
        }
        int works = piece.works.at(round);
        for (int i = 0; i < works; i++) {
            h = mixed(h, piece.kindOf(round, i));
        }
        return h;
    }

    /** Asked only of a text without a syntax error, as what is read must be a whole told round. */
    private int fittingRounds() {
        int stitches = piece.lastTotal();
        int room = MOST_ROUNDS - piece.rounds;
        int fit = 0;
        pattern.rewind();
        while (fit < room && pattern.hasMore()) {
            pattern.readRound();
            if (pattern.used != stitches || !isGoal(pattern.made)) {
                return fit;
            }
            stitches = pattern.made;
            fit++;
        }
        return fit;
    }

    private static int usedBy(int kind) {
        return kind == DECREASE ? 2 : 1;
    }

    private static int madeBy(int kind) {
        return kind == INCREASE ? 2 : 1;
    }

    /** The only place that touches an array of numbers: each index is looked at here. */
    private static final class Numbers {
        private final int[] held;

        Numbers(int length) {
            held = new int[length > 0 ? length : 0];
        }

        int at(int index) {
            return index >= 0 && index < held.length ? held[index] : 0;
        }

        void put(int index, int number) {
            if (index >= 0 && index < held.length) {
                held[index] = number;
            }
        }

        void take(Numbers other, int from, int count) {
            for (int i = from; i < from + count; i++) {
                put(i, other.at(i));
            }
        }
    }

    /** Everything that undo brings back. */
    private static final class Piece {
        final Numbers kinds = new Numbers(MOST_ROUNDS * MOST_STITCHES);
        final Numbers works = new Numbers(MOST_ROUNDS);
        final Numbers totals = new Numbers(MOST_ROUNDS);
        final Numbers yarn = new Numbers(KINDS);
        int rounds;
        boolean spiral;

        void takeOver(Piece other) {
            rounds = other.rounds;
            spiral = other.spiral;
            works.take(other.works, 0, rounds);
            totals.take(other.totals, 0, rounds);
            yarn.take(other.yarn, 0, KINDS);
            for (int round = 0; round < rounds; round++) {
                kinds.take(other.kinds, round * MOST_STITCHES, works.at(round));
            }
        }

        void startRing(int stitches) {
            rounds = 0;
            openRound();
            for (int i = 0; i < stitches; i++) {
                addWork(SINGLE);
            }
            closeRound();
        }

        /** Between openRound and closeRound the row behind the last round is built. */
        void openRound() {
            works.put(rounds, 0);
            totals.put(rounds, 0);
        }

        void addWork(int kind) {
            int work = works.at(rounds);
            if (work < MOST_STITCHES) {
                kinds.put(rounds * MOST_STITCHES + work, kind);
                works.put(rounds, work + 1);
                totals.put(rounds, totals.at(rounds) + madeBy(kind));
            }
        }

        void closeRound() {
            rounds++;
        }

        int lastTotal() {
            return totals.at(rounds - 1);
        }

        int kindOf(int round, int work) {
            return kinds.at(round * MOST_STITCHES + work);
        }

        int makerOf(int round, int stitch) {
            int count = works.at(round);
            int made = 0;
            for (int i = 0; i < count; i++) {
                made += madeBy(kindOf(round, i));
                if (made > stitch) {
                    return i;
                }
            }
            return NONE;
        }

        int parentOf(int round, int stitch) {
            int maker = makerOf(round, stitch);
            int used = 0;
            for (int i = 0; i < maker; i++) {
                used += usedBy(kindOf(round, i));
            }
            return used;
        }

        int childOf(int round, int stitch) {
            int next = round + 1;
            int count = works.at(next);
            int used = 0;
            int made = 0;
            for (int i = 0; i < count; i++) {
                int kind = kindOf(next, i);
                used += usedBy(kind);
                if (used > stitch) {
                    return made;
                }
                made += madeBy(kind);
            }
            return NONE;
        }

        int countOf(int round, int kind) {
            int count = works.at(round);
            int found = 0;
            for (int i = 0; i < count; i++) {
                if (kindOf(round, i) == kind) {
                    found++;
                }
            }
            return found;
        }

        int yarnOf(int round) {
            int count = works.at(round);
            int sum = 0;
            for (int i = 0; i < count; i++) {
                sum += yarn.at(kindOf(round, i));
            }
            return sum;
        }

        boolean isMirrored(int round) {
            int count = works.at(round);
            for (int i = 0; i < count / 2; i++) {
                if (kindOf(round, i) != kindOf(round, count - 1 - i)) {
                    return false;
                }
            }
            return true;
        }

        int distance(int round, boolean greatest) {
            int count = works.at(round);
            int first = NONE;
            int last = NONE;
            int chosen = 0;
            for (int i = 0; i < count; i++) {
                if (kindOf(round, i) != SINGLE) {
                    if (last == NONE) {
                        first = i;
                    } else {
                        chosen = further(chosen, i - last, greatest);
                    }
                    last = i;
                }
            }
            return first == last ? 0 : further(chosen, first + count - last, greatest);
        }

        /** A chosen distance of 0 stands for none yet, as true ones are 1 or more. */
        private static int further(int chosen, int found, boolean greatest) {
            if (chosen == 0) {
                return found;
            }
            return greatest ? Math.max(chosen, found) : Math.min(chosen, found);
        }

        int widest() {
            int best = 0;
            for (int round = 1; round < rounds; round++) {
                if (totals.at(round) > totals.at(best)) {
                    best = round;
                }
            }
            return best;
        }
    }

    /** A ring of slots, made once: the newest state lies just before the next slot. */
    private static final class History {
        private final Piece[] slots = new Piece[MOST_SAVED];
        private int next;
        int size;

        History() {
            for (int i = 0; i < slots.length; i++) {
                slots[i] = new Piece();
            }
        }

        void keep(Piece piece) {
            Piece slot = slotAt(next);
            if (slot != null) {
                slot.takeOver(piece);
            }
            next = (next + 1) % MOST_SAVED;
            size = Math.min(size + 1, MOST_SAVED);
        }

        void restore(Piece piece) {
            next = (next + MOST_SAVED - 1) % MOST_SAVED;
            size--;
            Piece slot = slotAt(next);
            if (slot != null) {
                piece.takeOver(slot);
            }
        }

        private Piece slotAt(int index) {
            return index >= 0 && index < slots.length ? slots[index] : null;
        }
    }

    /** The unshifted row of works that reaches a goal; made once and filled again. */
    private static final class Plan {
        final Numbers row = new Numbers(MOST_STITCHES);
        int works;
        private int shaped;
        private int kind;

        boolean spread(int stitches, int goal) {
            if (!measure(stitches, goal)) {
                return false;
            }
            for (int i = 0; i < works; i++) {
                row.put(i, spreadKind(i, shaped, works));
            }
            return true;
        }

        boolean mirror(int stitches, int goal) {
            if (!measure(stitches, goal)) {
                return false;
            }
            boolean middle = works % 2 == 1;
            boolean shapedMiddle = shaped % 2 == 1;
            if (shapedMiddle && !middle) {
                return false;
            }
            int half = works / 2;
            for (int i = 0; i < half; i++) {
                int one = spreadKind(i, shaped / 2, half);
                row.put(i, one);
                row.put(works - 1 - i, one);
            }
            if (middle) {
                row.put(half, shapedMiddle ? kind : SINGLE);
            }
            return true;
        }

        private boolean measure(int stitches, int goal) {
            if (goal >= stitches) {
                works = stitches;
                shaped = goal - stitches;
                kind = INCREASE;
                return shaped <= stitches;
            }
            works = goal;
            shaped = stitches - goal;
            kind = DECREASE;
            return 2 * shaped <= stitches;
        }

        private int spreadKind(int i, int among, int count) {
            if (count <= 0) {
                return SINGLE;
            }
            return (i + 1) * among / count > i * among / count ? kind : SINGLE;
        }
    }

    /** The kinds of the works that made the stitches of one round. */
    private static final class Makers {
        private final Numbers kinds = new Numbers(MOST_STITCHES);

        void load(Piece piece, int round) {
            int count = piece.works.at(round);
            int stitch = 0;
            for (int i = 0; i < count; i++) {
                int kind = piece.kinds.at(round * MOST_STITCHES + i);
                kinds.put(stitch, kind);
                if (kind == INCREASE) {
                    kinds.put(stitch + 1, kind);
                }
                stitch += madeBy(kind);
            }
        }

        int stackedIn(Numbers row, int start, int works, int shift) {
            int stacked = 0;
            int stitch = 0;
            for (int i = 0; i < works; i++) {
                int kind = row.at(start + (i + shift) % works);
                boolean onFirst = kinds.at(stitch) == kind;
                boolean onSecond = kind == DECREASE && kinds.at(stitch + 1) == kind;
                if (kind != SINGLE && (onFirst || onSecond)) {
                    stacked++;
                }
                stitch += usedBy(kind);
            }
            return stacked;
        }

        int bestShift(Plan plan) {
            int best = 0;
            int fewest = stackedIn(plan.row, 0, plan.works, 0);
            for (int shift = 1; shift < plan.works && fewest > 0; shift++) {
                int stacked = stackedIn(plan.row, 0, plan.works, shift);
                if (stacked < fewest) {
                    fewest = stacked;
                    best = shift;
                }
            }
            return best;
        }
    }

    /** The text, and what was read of it last. */
    private static final class Pattern {
        final Numbers bytes = new Numbers(MOST_BYTES);
        final Numbers itemKinds = new Numbers(MOST_ITEMS);
        final Numbers itemCounts = new Numbers(MOST_ITEMS);
        int length;
        int items;
        int times;
        int used;
        int made;
        private int position;
        private int error;

        void rewind() {
            position = 0;
            error = NONE;
        }

        boolean hasMore() {
            return position < length;
        }

        int syntaxError() {
            rewind();
            for (int i = 0; i < MOST_BYTES && error == NONE && hasMore(); i++) {
                readRound();
            }
            return error;
        }

        void readRound() {
            items = 0;
            times = 1;
            used = 0;
            made = 0;
            readItem();
            for (int i = 1; i < MOST_ITEMS && error == NONE && kindOf(ahead()) != NONE; i++) {
                readItem();
            }
            if (error == NONE && ahead() == '*') {
                position++;
                times = readNumber(TIMES_DIGITS, MOST_TIMES);
            }
            used *= times;
            made *= times;
            pass(ahead() == ';');
        }

        private void readItem() {
            int kind = kindOf(ahead());
            pass(kind != NONE);
            int count = readNumber(ITEM_DIGITS, MOST_IN_ITEM);
            itemKinds.put(items, kind);
            itemCounts.put(items, count);
            items++;
            used += count * usedBy(kind);
            made += count * madeBy(kind);
        }

        /** Behind an error nothing more is read, so the first error stays. */
        private void pass(boolean canStand) {
            if (error != NONE) {
                return;
            }
            if (canStand) {
                position++;
            } else {
                error = position;
            }
        }

        private int readNumber(int mostDigits, int highest) {
            if (error != NONE) {
                return 0;
            }
            int first = position;
            int number = 0;
            while (position < first + mostDigits && isDigit(ahead())) {
                number = 10 * number + ahead() - '0';
                position++;
            }
            if (position == first || isDigit(ahead())) {
                error = position;
            } else if (number < 1 || number > highest) {
                error = first;
            }
            return number;
        }

        private int ahead() {
            return hasMore() ? bytes.at(position) : NONE;
        }

        private static boolean isDigit(int value) {
            return value >= '0' && value <= '9';
        }

        private static int kindOf(int value) {
            switch (value) {
                case 'x': return SINGLE;
                case 'v': return INCREASE;
                case 'a': return DECREASE;
                default: return NONE;
            }
        }
    }
}
