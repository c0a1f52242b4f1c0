import java.util.Arrays;

/** Games of two players in exact fractions; README.md says how it is used. */
public final class BestReplies {
    private static final int MOST = 6;
    private static final int MOST_ABOVE = 9999;
    private static final int MOST_BELOW = 12;
    private static final int MOST_TOLD = 999;
    private static final int MOST_ENTRIES = 100;
    /** A path visits each vertex of a polytope of 6 dimensions and 12 facets (112 at most) twice at most. */
    private static final int MOST_STEPS = 256;
    private static final int TOLD = -2;
    private static final int RUN = -1;

    /** Rows and columns of the game; both 0 without one. */
    private final int[] counts = new int[2];
    private final Payoffs[] payoffs = {new Payoffs(), new Payoffs()};
    private final Told[] toldWeights = {new Told(), new Told()};
    /** Rows and columns that no round took away, as bits. */
    private final int[] there = new int[2];

    private final Table[] tables = {new Table(), new Table()};
    /** What entered, what left and the table, each by the step's number. */
    private final int[][] path = new int[3][MOST_STEPS];
    private int steps = 0;
    private int missing = -1;

    /** Made by the first list(): they are large, and many an object never needs them. */
    private Minors[] minors = null;
    /** Rows and columns of each entry, as bits. */
    private final int[][] entries = new int[2][MOST_ENTRIES];
    private int entryCount = 0;
    private boolean isListed = false;

    private final Weights[] strategies = {new Weights(), new Weights()};
    private final Big[] values = bigs(MOST);
    private final Big product = new Big();
    private final Big own = new Big();
    private final Fraction hand = new Fraction();
    private final Divider divider = new Divider();

    public BestReplies() {
    }

    public void game(int m, int n) throws IllegalArgumentException {
        if (m < 1 || m > MOST || n < 1 || n > MOST) {
            throw new IllegalArgumentException("rows and columns are 1 to 6");
        }
        counts[0] = m;
        counts[1] = n;
        for (int player = 0; player < 2; player++) {
            payoffs[player].reset(counts[player], counts[1 - player]);
            toldWeights[player].reset();
        }
        forget();
    }

    public void pay(int player, int row, int column, int above, int below)
            throws IllegalStateException, IllegalArgumentException {
        needGame();
        needPlayer(player);
        needRow(0, row);
        needRow(1, column);
        if (above < -MOST_ABOVE || above > MOST_ABOVE || below < 1 || below > MOST_BELOW) {
            throw new IllegalArgumentException("no such payoff");
        }
        payoffs[player].put(player == 0 ? row : column, player == 0 ? column : row, above, below);
        forget();
    }

    public int run(int label) throws IllegalStateException, IllegalArgumentException {
        needGame();
        if (label < 0 || label >= counts[0] + counts[1]) {
            throw new IllegalArgumentException("no such label");
        }
        tables[0].start(payoffs[1], counts[0], 0);
        tables[1].start(payoffs[0], 0, counts[0]);
        int table = label < counts[0] ? 0 : 1;
        int entering = label;
        int count = 0;
        boolean isOver = false;
        while (!isOver && count < MOST_STEPS) {
            int leaving = tables[table].enter(entering);
            path[0][count] = entering;
            path[1][count] = leaving;
            path[2][count] = table;
            count++;
            isOver = leaving == label;
            entering = leaving;
            table = 1 - table;
        }
        steps = count;
        missing = label;
        return steps;
    }

    public int step(int k, int what)
            throws IllegalStateException, IndexOutOfBoundsException, IllegalArgumentException {
        if (steps == 0) {
            throw new IllegalStateException("no run");
        }
        if (k < 0 || k >= steps) {
            throw new IndexOutOfBoundsException("no such step");
        }
        if (what < 0 || what > 2) {
            throw new IllegalArgumentException("what is 0 to 2");
        }
        return path[what][k];
    }

    public void weight(int player, int row, int above, int below)
            throws IllegalStateException, IllegalArgumentException {
        needGame();
        needPlayer(player);
        needRow(player, row);
        if (above < 0 || above > MOST_TOLD || below < 1 || below > MOST_TOLD) {
            throw new IllegalArgumentException("no such weight");
        }
        toldWeights[player].put(row, above, below);
    }

    public int list() throws IllegalStateException {
        needGame();
        if (!isListed) {
            makeList();
        }
        return entryCount;
    }

    public int support(int source, int player) throws IllegalStateException, IllegalArgumentException {
        needSource(source);
        needPlayer(player);
        load(source);
        return strategies[player].bits();
    }

    public int strategy(int source, int player, int row)
            throws IllegalStateException, IllegalArgumentException {
        needSource(source);
        needPlayer(player);
        needRow(player, row);
        load(source);
        hand.above.copy(strategies[player].each[row]);
        hand.below.copy(strategies[player].total);
        hand.reduce(divider);
        return hand.above.signum;
    }

    public int gets(int source, int player, int row)
            throws IllegalStateException, IllegalArgumentException {
        needSource(source);
        needPlayer(player);
        if (row != -1) {
            needRow(player, row);
        }
        load(source);
        if (row == -1) {
            weighValues(player);
            holdOfBoth(player, own);
        } else {
            hand.above.clear();
            payoffs[player].value(row, strategies[1 - player], hand.above, product);
            hand.below.setTo(payoffs[player].multiple);
            hand.multiplyBelow(strategies[1 - player].total, product);
            hand.reduce(divider);
        }
        return hand.above.signum;
    }

    public int replies(int source, int player) throws IllegalStateException, IllegalArgumentException {
        needSource(source);
        needPlayer(player);
        load(source);
        weighValues(player);
        int bits = bestBits(player);
        int first = Integer.numberOfTrailingZeros(bits);
        if (first < MOST) {
            product.setProduct(values[first], strategies[player].total);
            product.subtract(own);
            own.copy(product);
        }
        holdOfBoth(player, own);
        return bits;
    }

    public boolean judge(int source) throws IllegalStateException {
        needSource(source);
        load(source);
        for (int player = 0; player < 2; player++) {
            weighValues(player);
            if ((strategies[player].bits() & ~bestBits(player)) != 0) {
                return false;
            }
        }
        return true;
    }

    public int index(int entry) throws IllegalStateException {
        if (!isListed || minors == null || entry < 0 || entry >= entryCount) {
            throw new IllegalStateException("no such entry");
        }
        int rows = entries[0][entry];
        int columns = entries[1][entry];
        int both = minors[0].signOf(rows, columns) * minors[1].signOf(columns, rows);
        return Integer.bitCount(rows) % 2 == 0 ? -both : both;
    }

    public int round() throws IllegalStateException {
        needGame();
        int rows = payoffs[0].dominated(there[0], there[1]);
        int columns = payoffs[1].dominated(there[1], there[0]);
        there[0] &= ~rows;
        there[1] &= ~columns;
        return Integer.bitCount(rows) + Integer.bitCount(columns);
    }

    public boolean isThere(int player, int row) throws IllegalStateException, IllegalArgumentException {
        needGame();
        needPlayer(player);
        needRow(player, row);
        return (there[player] >> row & 1) != 0;
    }

    public long part(boolean below, int k) throws IndexOutOfBoundsException {
        if (k < 0) {
            throw new IndexOutOfBoundsException("no such part");
        }
        return below ? hand.below.word(k) : hand.above.word(k);
    }

    public int sign() {
        return hand.above.signum;
    }

    public int told(int what) throws IllegalArgumentException {
        switch (what) {
            case 0:
            case 1:
                return counts[what];
            case 2:
                return steps;
            case 3:
                return entryCount;
            case 4:
                return missing;
            case 5:
            case 6:
                return payoffs[what - 5].multiple;
            default:
                throw new IllegalArgumentException("what is 0 to 6");
        }
    }

    private void needGame() {
        if (counts[0] == 0) {
            throw new IllegalStateException("no game");
        }
    }

    private void needPlayer(int player) {
        if (player < 0 || player > 1) {
            throw new IllegalArgumentException("no such player");
        }
    }

    private void needRow(int player, int row) {
        if (row < 0 || row >= counts[player]) {
            throw new IllegalArgumentException("no such row or column");
        }
    }

    private void needSource(int source) {
        if (!isSource(source)) {
            throw new IllegalStateException("no such source");
        }
    }

    private boolean isSource(int source) {
        if (counts[0] == 0 || source < TOLD) {
            return false;
        }
        if (source == TOLD) {
            return toldWeights[0].isOne() && toldWeights[1].isOne();
        }
        if (source == RUN) {
            return steps > 0;
        }
        return isListed && source < entryCount;
    }

    /** What was found out of the payoffs holds no longer. */
    private void forget() {
        steps = 0;
        missing = -1;
        entryCount = 0;
        isListed = false;
        for (int player = 0; player < 2; player++) {
            there[player] = (1 << counts[player]) - 1;
        }
    }

    private void makeList() {
        if (minors == null) {
            minors = new Minors[] {new Minors(payoffs[0]), new Minors(payoffs[1])};
        }
        minors[0].fill();
        minors[1].fill();
        entryCount = 0;
        int largest = Math.min(counts[0], counts[1]);
        for (int size = 1; size <= largest; size++) {
            for (int rows = 1; rows < 1 << counts[0]; rows++) {
                if (Integer.bitCount(rows) == size) {
                    listAllWith(rows, size);
                }
            }
        }
        isListed = true;
    }

    private void listAllWith(int rows, int size) {
        for (int columns = 1; columns < 1 << counts[1] && entryCount < MOST_ENTRIES; columns++) {
            if (Integer.bitCount(columns) == size
                    && minors[0].holds(rows, columns) && minors[1].holds(columns, rows)) {
                entries[0][entryCount] = rows;
                entries[1][entryCount] = columns;
                entryCount++;
            }
        }
    }

    /** Both strategies of a source, which there is. */
    private void load(int source) {
        for (int player = 0; player < 2; player++) {
            Weights into = strategies[player];
            into.clear();
            if (source == TOLD) {
                toldWeights[player].read(into);
            } else if (source == RUN) {
                tables[player].read(player == 0 ? 0 : counts[0], counts[player], into);
            } else if (minors != null && source >= 0 && source < MOST_ENTRIES) {
                minors[1 - player].read(entries[1 - player][source], entries[player][source], into);
            }
            into.sumUp();
        }
    }

    /** What each of a player's rows gets, and his own strategy, each but for its divisor. */
    private void weighValues(int player) {
        own.clear();
        for (int row = 0; row < counts[player]; row++) {
            values[row].clear();
            payoffs[player].value(row, strategies[1 - player], values[row], product);
            product.setProduct(values[row], strategies[player].each[row]);
            own.add(product);
        }
    }

    private int bestBits(int player) {
        int bits = 1;
        int best = 0;
        for (int row = 1; row < counts[player]; row++) {
            int order = values[row].compareWith(values[best]);
            if (order > 0) {
                bits = 0;
                best = row;
            }
            if (order >= 0) {
                bits |= 1 << row;
            }
        }
        return bits;
    }

    /** To hand comes a number by all that a payoff and both strategies are divided by. */
    private void holdOfBoth(int player, Big number) {
        hand.above.copy(number);
        hand.below.setTo(payoffs[player].multiple);
        hand.multiplyBelow(strategies[0].total, product);
        hand.multiplyBelow(strategies[1].total, product);
        hand.reduce(divider);
    }

    private static Big[] bigs(int count) {
        Big[] made = new Big[Math.max(count, 0)];
        for (int i = 0; i < made.length; i++) {
            made[i] = new Big();
        }
        return made;
    }

    /** A player's payoffs, his own rows (or columns) first, all times their denominators' multiple. */
    private static final class Payoffs {
        int owns = 0;
        int others = 0;
        /** The least common multiple of the denominators; 0 without a game. */
        int multiple = 0;
        private int least = 0;
        private final int[] above = new int[MOST * MOST];
        private final int[] below = new int[MOST * MOST];
        private final int[] whole = new int[MOST * MOST];

        void reset(int ownCount, int otherCount) {
            owns = ownCount;
            others = otherCount;
            Arrays.fill(above, 0);
            Arrays.fill(below, 1);
            makeWhole();
        }

        void put(int row, int other, int newAbove, int newBelow) {
            int divisor = Math.max(1, commonDivisor(Math.abs(newAbove), newBelow));
            above[row * MOST + other] = newAbove / divisor;
            below[row * MOST + other] = newBelow / divisor;
            makeWhole();
        }

        /** The least of all is 1, so that all tables' polytopes are bounded. */
        int lifted(int row, int other) {
            return 1 + whole[row * MOST + other] - least;
        }

        /** Adds what a row gets against a strategy, times the multiple and the strategy's total. */
        void value(int row, Weights strategy, Big sum, Big spare) {
            for (int other = 0; other < others; other++) {
                spare.setProductBy(strategy.each[other], whole[row * MOST + other]);
                sum.add(spare);
            }
        }

        int dominated(int ownBits, int otherBits) {
            int bits = 0;
            for (int row = 0; row < owns; row++) {
                for (int by = 0; by < owns; by++) {
                    if ((ownBits >> row & ownBits >> by & 1) != 0 && isMore(by, row, otherBits)) {
                        bits |= 1 << row;
                    }
                }
            }
            return bits;
        }

        private boolean isMore(int row, int than, int otherBits) {
            for (int other = 0; other < others; other++) {
                if ((otherBits >> other & 1) != 0
                        && whole[row * MOST + other] <= whole[than * MOST + other]) {
                    return false;
                }
            }
            return true;
        }

        private void makeWhole() {
            multiple = 1;
            for (int cell = 0; cell < below.length; cell++) {
                multiple *= below[cell] / Math.max(1, commonDivisor(multiple, below[cell]));
            }
            least = Integer.MAX_VALUE;
            for (int row = 0; row < owns; row++) {
                for (int other = 0; other < others; other++) {
                    int cell = row * MOST + other;
                    whole[cell] = above[cell] * (multiple / Math.max(1, below[cell]));
                    least = Math.min(least, whole[cell]);
                }
            }
        }

        private static int commonDivisor(int a, int b) {
            int x = a;
            int y = b;
            for (int i = 0; i < 100 && y != 0; i++) {
                int rest = x % y;
                x = y;
                y = rest;
            }
            return x;
        }
    }

    /** The weights that a player was told. */
    private static final class Told {
        private final int[] above = new int[MOST];
        private final int[] below = new int[MOST];

        void reset() {
            Arrays.fill(above, 0);
            Arrays.fill(below, 1);
        }

        void put(int row, int newAbove, int newBelow) {
            above[row] = newAbove;
            below[row] = newBelow;
        }

        boolean isOne() {
            long sum = 0;
            for (int row = 0; row < MOST; row++) {
                sum += share(row);
            }
            return sum == denominator();
        }

        void read(Weights into) {
            for (int row = 0; row < MOST; row++) {
                into.each[row].setTo(share(row));
            }
        }

        /** All denominators' product: 999 to the 6th is below 2 to the 60th, and six shares below 2 to the 63rd. */
        private long denominator() {
            long all = 1;
            for (int row = 0; row < MOST; row++) {
                all *= below[row];
            }
            return all;
        }

        private long share(int row) {
            return above[row] * (denominator() / Math.max(1, below[row]));
        }
    }

    /** A strategy: weights by their total. */
    private static final class Weights {
        final Big[] each = bigs(MOST);
        final Big total = new Big();

        void clear() {
            for (int row = 0; row < MOST; row++) {
                each[row].clear();
            }
        }

        void sumUp() {
            total.clear();
            for (int row = 0; row < MOST; row++) {
                total.add(each[row]);
            }
        }

        int bits() {
            int bits = 0;
            for (int row = 0; row < MOST; row++) {
                if (each[row].signum > 0) {
                    bits |= 1 << row;
                }
            }
            return bits;
        }
    }

    /**
     * A table of the pivoting, solved for its basic variables: scale times the basic one, and the sum of each cell
     * times the column's variable, are the side. All cells are determinants and so stay whole numbers.
     */
    private static final class Table {
        private static final int SIDE = MOST;
        private static final int WIDTH = MOST + 1;

        private int rows = 0;
        private int columns = 0;
        /** The label of the first row's variable at first. */
        private int firstLabel = 0;
        private final int[] rowLabels = new int[MOST];
        private final int[] columnLabels = new int[MOST];
        private final Big[] cells = bigs(MOST * WIDTH);
        private Big scale = new Big();
        private final Big left = new Big();
        private final Big right = new Big();
        private final Divider divider = new Divider();

        void start(Payoffs payoffs, int rowLabel, int columnLabel) {
            rows = payoffs.owns;
            columns = payoffs.others;
            firstLabel = rowLabel;
            scale.setTo(1);
            for (int row = 0; row < rows; row++) {
                rowLabels[row] = rowLabel + row;
                for (int column = 0; column < columns; column++) {
                    cells[row * WIDTH + column].setTo(payoffs.lifted(row, column));
                }
                cells[row * WIDTH + SIDE].setTo(1);
            }
            for (int column = 0; column < columns; column++) {
                columnLabels[column] = columnLabel + column;
            }
        }

        /** The label of what leaves. */
        int enter(int label) {
            int column = find(columnLabels, columns, label);
            int row = column < 0 ? -1 : leavingRow(column);
            if (row < 0) {
                return label;
            }
            pivot(row, column);
            int leaving = rowLabels[row];
            rowLabels[row] = label;
            columnLabels[column] = leaving;
            return leaving;
        }

        /** The values of variables with labels in a row, as weights. */
        void read(int label, int count, Weights into) {
            for (int i = 0; i < count && i < MOST; i++) {
                int row = find(rowLabels, rows, label + i);
                if (row >= 0) {
                    into.each[i].copy(cells[row * WIDTH + SIDE]);
                }
            }
        }

        private static int find(int[] labels, int count, int label) {
            for (int i = 0; i < count && i < labels.length; i++) {
                if (labels[i] == label) {
                    return i;
                }
            }
            return -1;
        }

        private int leavingRow(int column) {
            int best = -1;
            for (int row = 0; row < rows; row++) {
                if (cells[row * WIDTH + column].signum > 0 && (best < 0 || isLess(row, best, column))) {
                    best = row;
                }
            }
            return best;
        }

        /** Ties of the sides are broken by the variables that were basic at first: so no path goes round. */
        private boolean isLess(int row, int than, int column) {
            int order = compareRatios(row, than, column, SIDE);
            for (int i = 0; i < rows && order == 0; i++) {
                int at = find(columnLabels, columns, firstLabel + i);
                if (at >= 0) {
                    order = compareRatios(row, than, column, at);
                } else if (rowLabels[row] == firstLabel + i) {
                    order = 1;
                } else if (rowLabels[than] == firstLabel + i) {
                    order = -1;
                }
            }
            return order < 0;
        }

        private int compareRatios(int row, int than, int column, int at) {
            left.setProduct(cells[row * WIDTH + at], cells[than * WIDTH + column]);
            right.setProduct(cells[than * WIDTH + at], cells[row * WIDTH + column]);
            return left.compareWith(right);
        }

        private void pivot(int row, int column) {
            for (int i = 0; i < rows; i++) {
                if (i != row) {
                    for (int j = 0; j < columns; j++) {
                        if (j != column) {
                            clearOut(i, j, row, column);
                        }
                    }
                    clearOut(i, SIDE, row, column);
                    cells[i * WIDTH + column].turn();
                }
            }
            Big pivot = cells[row * WIDTH + column];
            cells[row * WIDTH + column] = scale;
            scale = pivot;
        }

        private void clearOut(int i, int j, int row, int column) {
            left.setProduct(cells[i * WIDTH + j], cells[row * WIDTH + column]);
            right.setProduct(cells[i * WIDTH + column], cells[row * WIDTH + j]);
            left.subtract(right);
            divider.divide(left, scale, cells[i * WIDTH + j]);
        }
    }

    /**
     * The determinants of all square parts of a player's lifted payoffs. Each has LIMBS digits of 31 bits and wraps
     * around below 0 (its top bit is its sign): none needs more than 182 bits, so one loop adds and multiplies.
     */
    private static final class Minors {
        private static final int LIMBS = 6;
        private static final int ALL = 924;
        /** For each size: how many sets of 6 there are, and where the parts of that size begin. */
        private static final int[] SETS = {1, 6, 15, 20, 15, 6, 1};
        private static final int[] STARTS = {0, 1, 37, 262, 662, 887, 923};

        private final Payoffs payoffs;
        private final int[] ranks = new int[1 << MOST];
        private final int[] minors = new int[ALL * LIMBS];
        private final int[] sums = new int[MOST * LIMBS];
        private final int[] excess = new int[LIMBS];

        Minors(Payoffs payoffs) {
            this.payoffs = payoffs;
            int[] seen = new int[MOST + 1];
            for (int set = 0; set < ranks.length; set++) {
                ranks[set] = seen[Integer.bitCount(set)]++;
            }
            minors[0] = 1;
        }

        void fill() {
            for (int own = 1; own < 1 << payoffs.owns; own++) {
                for (int other = 1; other < 1 << payoffs.others; other++) {
                    if (Integer.bitCount(own) == Integer.bitCount(other)) {
                        expand(own, other);
                    }
                }
            }
        }

        int signOf(int own, int other) {
            return signAt(minors, place(own, other));
        }

        /**
         * Whether just one strategy on the others makes all own ones get the same, with all its weights above 0, and
         * none beside them gets more. As all payoffs are lifted above 0, that is so just if the determinant is not 0
         * and the sums of its cofactors (the weights, but for their total) all have its sign.
         */
        boolean holds(int own, int other) {
            int way = signOf(own, other);
            if (way == 0) {
                return false;
            }
            for (int i = 0; i < MOST; i++) {
                if ((other >> i & 1) != 0) {
                    sumCofactors(own, other, i);
                    if (signAt(sums, i * LIMBS) != way) {
                        return false;
                    }
                }
            }
            for (int row = 0; row < payoffs.owns; row++) {
                if ((own >> row & 1) == 0 && excessSign(row, own, other) == way) {
                    return false;
                }
            }
            return true;
        }

        /** The weights of an entry: those on the others. */
        void read(int own, int other, Weights into) {
            for (int i = 0; i < MOST; i++) {
                if ((other >> i & 1) != 0) {
                    sumCofactors(own, other, i);
                    into.each[i].setToSize(sums, i * LIMBS, LIMBS, signAt(sums, i * LIMBS));
                }
            }
        }

        private void expand(int own, int other) {
            int at = place(own, other);
            int row = Integer.numberOfTrailingZeros(own);
            int rest = own & own - 1;
            int way = 1;
            Arrays.fill(minors, at, at + LIMBS, 0);
            for (int i = 0; i < MOST; i++) {
                if ((other >> i & 1) != 0) {
                    addTimes(minors, at, minors, place(rest, other & ~(1 << i)), way * payoffs.lifted(row, i));
                    way = -way;
                }
            }
        }

        private void sumCofactors(int own, int other, int column) {
            int without = other & ~(1 << column);
            int way = Integer.bitCount(without & (1 << column) - 1) % 2 == 0 ? 1 : -1;
            Arrays.fill(sums, column * LIMBS, column * LIMBS + LIMBS, 0);
            for (int row = 0; row < MOST; row++) {
                if ((own >> row & 1) != 0) {
                    addTimes(sums, column * LIMBS, minors, place(own & ~(1 << row), without), way);
                    way = -way;
                }
            }
        }

        /** Of what a row beside the own ones gets by the sums, less the determinant, which these get. */
        private int excessSign(int row, int own, int other) {
            Arrays.fill(excess, 0);
            addTimes(excess, 0, minors, place(own, other), -1);
            for (int i = 0; i < MOST; i++) {
                if ((other >> i & 1) != 0) {
                    addTimes(excess, 0, sums, i * LIMBS, payoffs.lifted(row, i));
                }
            }
            return signAt(excess, 0);
        }

        /** Where the part of two sets of one size stands. */
        private int place(int own, int other) {
            int size = Integer.bitCount(own);
            return (STARTS[size] + ranks[own] * SETS[size] + ranks[other]) * LIMBS;
        }

        private static void addTimes(int[] sum, int at, int[] from, int start, int times) {
            long carry = 0;
            for (int i = 0; i < LIMBS; i++) {
                carry += sum[at + i] + (long) times * from[start + i];
                sum[at + i] = (int) (carry & Big.MASK);
                carry >>= Big.BITS;
            }
        }

        private static int signAt(int[] from, int start) {
            if ((from[start + LIMBS - 1] >> Big.BITS - 1 & 1) != 0) {
                return -1;
            }
            int any = 0;
            for (int i = 0; i < LIMBS; i++) {
                any |= from[start + i];
            }
            return any == 0 ? 0 : 1;
        }
    }

    /** The number at hand. */
    private static final class Fraction {
        final Big above = new Big();
        final Big below = new Big();

        Fraction() {
            below.setTo(1);
        }

        void multiplyBelow(Big by, Big spare) {
            spare.setProduct(below, by);
            below.copy(spare);
        }

        void reduce(Divider divider) {
            divider.findCommon(above, below);
            divider.divideByCommon(above);
            divider.divideByCommon(below);
        }
    }

    /** A whole number of any sign that changes in place: its size in digits of 31 bits, the lowest first. */
    private static final class Big {
        static final int BITS = 31;
        static final long MASK = 0x7fffffffL;
        /** The largest number, a product of two cells of a table, has 12. */
        static final int LIMBS = 14;

        int signum = 0;
        /** How many digits it has, the top one not 0. */
        int length = 0;
        final int[] limbs = new int[LIMBS];

        void clear() {
            signum = 0;
            length = 0;
        }

        void turn() {
            signum = -signum;
        }

        void copy(Big from) {
            signum = from.signum;
            length = from.length;
            System.arraycopy(from.limbs, 0, limbs, 0, length);
        }

        void setTo(long number) {
            long size = number < 0 ? -number : number;
            limbs[0] = (int) (size & MASK);
            limbs[1] = (int) (size >>> BITS & MASK);
            limbs[2] = (int) (size >>> 2 * BITS);
            trim(3, number < 0 ? -1 : 1);
        }

        /** To the size of a number that wraps around below 0. */
        void setToSize(int[] from, int start, int count, int way) {
            long carry = 0;
            int top = Math.min(count, LIMBS);
            for (int i = 0; i < top; i++) {
                carry += way < 0 ? -from[start + i] : from[start + i];
                limbs[i] = (int) (carry & MASK);
                carry >>= BITS;
            }
            trim(top, 1);
        }

        /** The factors are other objects than this one. */
        void setProduct(Big x, Big y) {
            int top = Math.min(LIMBS, x.length + y.length);
            Arrays.fill(limbs, 0, top, 0);
            for (int i = 0; i < x.length; i++) {
                addTimes(y, x.limbs[i], i);
            }
            trim(top, x.signum * y.signum);
        }

        /** The factor's size is one digit. */
        void setProductBy(Big x, int factor) {
            int top = Math.min(LIMBS, x.length + 1);
            Arrays.fill(limbs, 0, top, 0);
            addTimes(x, Math.abs((long) factor), 0);
            trim(top, factor < 0 ? -x.signum : x.signum);
        }

        void add(Big x) {
            addSigned(x, x.signum);
        }

        void subtract(Big x) {
            addSigned(x, -x.signum);
        }

        int compareWith(Big x) {
            if (signum != x.signum) {
                return signum < x.signum ? -1 : 1;
            }
            return signum * compareSize(x);
        }

        boolean isOne() {
            return signum == 1 && length == 1 && limbs[0] == 1;
        }

        /** The k-th 64 bits of its size. */
        long word(int k) {
            long bits = 0;
            for (int i = 0; i < length; i++) {
                long shift = (long) BITS * i - 64L * k;
                if (shift >= 0 && shift < 64) {
                    bits |= (long) limbs[i] << shift;
                } else if (shift < 0 && shift > -BITS) {
                    bits |= (long) limbs[i] >> -shift;
                }
            }
            return bits;
        }

        void trim(int top, int way) {
            length = top;
            while (length > 0 && limbs[length - 1] == 0) {
                length--;
            }
            signum = length == 0 ? 0 : way;
        }

        /** The digit above those that it adds to is 0 before. */
        private void addTimes(Big x, long factor, int at) {
            long carry = 0;
            int top = Math.min(LIMBS, at + x.length);
            for (int i = at; i < top; i++) {
                carry += limbs[i] + factor * x.limbs[i - at];
                limbs[i] = (int) (carry & MASK);
                carry >>= BITS;
            }
            if (top < LIMBS) {
                limbs[top] = (int) carry;
            }
        }

        private void addSigned(Big x, int way) {
            if (way == 0) {
                return;
            }
            if (signum == 0 || signum == way) {
                addSizes(x, way);
            } else if (compareSize(x) >= 0) {
                setDifference(this, x, signum);
            } else {
                setDifference(x, this, way);
            }
        }

        private void addSizes(Big x, int way) {
            long carry = 0;
            int top = Math.min(LIMBS, Math.max(length, x.length) + 1);
            for (int i = 0; i < top; i++) {
                carry += (long) limb(i) + x.limb(i);
                limbs[i] = (int) (carry & MASK);
                carry >>= BITS;
            }
            trim(top, way);
        }

        private void setDifference(Big larger, Big smaller, int way) {
            long carry = 0;
            int top = larger.length;
            for (int i = 0; i < top; i++) {
                carry += (long) larger.limb(i) - smaller.limb(i);
                limbs[i] = (int) (carry & MASK);
                carry >>= BITS;
            }
            trim(top, way);
        }

        private int compareSize(Big x) {
            if (length != x.length) {
                return length < x.length ? -1 : 1;
            }
            for (int i = length - 1; i >= 0; i--) {
                if (limbs[i] != x.limbs[i]) {
                    return limbs[i] < x.limbs[i] ? -1 : 1;
                }
            }
            return 0;
        }

        private int limb(int i) {
            return i >= 0 && i < length ? limbs[i] : 0;
        }
    }

    /** Divides, digit by digit, and finds common divisors. */
    private static final class Divider {
        /** Far above what Euclid's way needs for numbers of 14 digits (some 630). */
        private static final int MOST_DIVISIONS = 10000;

        private final int[] rest = new int[Big.LIMBS + 1];
        private final int[] by = new int[Big.LIMBS + 1];
        private final Big spare = new Big();
        private final Big first = new Big();
        private final Big second = new Big();
        private Big common = first;

        /** Of two numbers, the second one above 0. */
        void findCommon(Big a, Big b) {
            Big x = first;
            Big y = second;
            x.copy(a);
            y.copy(b);
            x.signum = Math.abs(x.signum);
            for (int i = 0; i < MOST_DIVISIONS && y.signum != 0; i++) {
                divide(x, y, spare);
                Big smaller = x;
                x = y;
                y = smaller;
            }
            common = x;
        }

        void divideByCommon(Big number) {
            if (!common.isOne()) {
                spare.copy(number);
                divide(spare, common, number);
            }
        }

        /** The number becomes what remains; the quotient is another object, rounded towards 0. */
        void divide(Big number, Big divisor, Big quotient) {
            int way = number.signum * divisor.signum;
            if (way == 0 || number.length < divisor.length) {
                quotient.clear();
            } else if (divisor.length == 1) {
                divideByDigit(number, divisor.limbs[0], quotient, way);
            } else {
                divideByDigits(number, divisor, quotient, way);
            }
        }

        private void divideByDigit(Big number, int digit, Big quotient, int way) {
            long left = 0;
            int divisor = Math.max(1, digit);
            int top = number.length;
            for (int i = top - 1; i >= 0; i--) {
                left = left << Big.BITS | number.limbs[i];
                quotient.limbs[i] = (int) (left / divisor);
                left %= divisor;
            }
            quotient.trim(top, way);
            number.setTo(number.signum * left);
        }

        private void divideByDigits(Big number, Big divisor, Big quotient, int way) {
            int size = divisor.length;
            int places = number.length - size + 1;
            // With the divisor's top bit set a digit is guessed at most two too high.
            int shift = Integer.numberOfLeadingZeros(divisor.limbs[size - 1]) - 1;
            shiftUp(divisor, shift, by);
            shiftUp(number, shift, rest);
            for (int at = places - 1; at >= 0; at--) {
                long digit = guess(at, size);
                if (takeAway(digit, at, size)) {
                    digit--;
                    putBack(at, size);
                }
                quotient.limbs[at] = (int) digit;
            }
            quotient.trim(places, way);
            for (int i = 0; i < size; i++) {
                long two = (long) rest[i + 1] << Big.BITS | rest[i];
                number.limbs[i] = (int) (two >> shift & Big.MASK);
            }
            number.trim(size, number.signum);
        }

        private static void shiftUp(Big from, int shift, int[] into) {
            long carry = 0;
            for (int i = 0; i < from.length; i++) {
                carry |= (long) from.limbs[i] << shift;
                into[i] = (int) (carry & Big.MASK);
                carry >>= Big.BITS;
            }
            into[from.length] = (int) carry;
        }

        private long guess(int at, int size) {
            long lead = Math.max(1, by[size - 1]);
            long top = (long) rest[at + size] << Big.BITS | rest[at + size - 1];
            long digit = top / lead;
            long left = top % lead;
            for (int i = 0; i < 3 && left <= Big.MASK; i++) {
                if (digit > Big.MASK || digit * by[size - 2] > (left << Big.BITS | rest[at + size - 2])) {
                    digit--;
                    left += lead;
                }
            }
            return digit;
        }

        /** Whether it was too much. */
        private boolean takeAway(long digit, int at, int size) {
            long carry = 0;
            for (int i = 0; i < size; i++) {
                carry += rest[at + i] - digit * by[i];
                rest[at + i] = (int) (carry & Big.MASK);
                carry >>= Big.BITS;
            }
            carry += rest[at + size];
            rest[at + size] = (int) (carry & Big.MASK);
            return carry < 0;
        }

        private void putBack(int at, int size) {
            long carry = 0;
            for (int i = 0; i < size; i++) {
                carry += (long) rest[at + i] + by[i];
                rest[at + i] = (int) (carry & Big.MASK);
                carry >>= Big.BITS;
            }
            rest[at + size] = (int) (rest[at + size] + carry & Big.MASK);
        }
    }
}
