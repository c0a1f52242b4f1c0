import java.math.BigInteger;
import java.util.ArrayList;
import java.util.List;

/**
 * The document's words once more, as literally as can be: whole tables of fractions, each pair of supports solved by
 * elimination with the common payoff as one unknown more. It shares nothing with BestReplies and cares for no speed.
 */
final class Reference {
    private int m = 0;
    private int n = 0;
    /** By player, row, column. */
    private Ratio[][][] payoff;
    private Ratio[][] told;
    private boolean[][] there;
    private List<int[]> steps;
    private int missing;
    private Ratio[][] runWeights;
    private List<int[]> entries;
    private List<Ratio[][]> entryWeights;
    private Ratio hand = Ratio.ZERO;

    void game(int rows, int columns) {
        if (rows < 1 || rows > 6 || columns < 1 || columns > 6) {
            throw new IllegalArgumentException();
        }
        m = rows;
        n = columns;
        payoff = new Ratio[2][m][n];
        told = new Ratio[][] {new Ratio[m], new Ratio[n]};
        for (int player = 0; player < 2; player++) {
            for (Ratio[] row : payoff[player]) {
                java.util.Arrays.fill(row, Ratio.ZERO);
            }
            java.util.Arrays.fill(told[player], Ratio.ZERO);
        }
        forget();
    }

    private void forget() {
        steps = null;
        entries = null;
        there = new boolean[][] {new boolean[m], new boolean[n]};
        java.util.Arrays.fill(there[0], true);
        java.util.Arrays.fill(there[1], true);
    }

    private void needGame() {
        if (m == 0) {
            throw new IllegalStateException();
        }
    }

    private void need(boolean is) {
        if (!is) {
            throw new IllegalArgumentException();
        }
    }

    private boolean isPlayer(int player) {
        return player == 0 || player == 1;
    }

    private int count(int player) {
        return player == 0 ? m : n;
    }

    private boolean isRow(int player, int row) {
        return isPlayer(player) && row >= 0 && row < count(player);
    }

    void pay(int player, int row, int column, int above, int below) {
        needGame();
        need(isPlayer(player) && isRow(0, row) && isRow(1, column));
        need(above >= -9999 && above <= 9999 && below >= 1 && below <= 12);
        payoff[player][row][column] = Ratio.of(above, below);
        forget();
    }

    private BigInteger multiple(int player) {
        BigInteger all = BigInteger.ONE;
        for (Ratio[] row : payoff[player]) {
            for (Ratio each : row) {
                all = all.multiply(each.below).divide(all.gcd(each.below));
            }
        }
        return all;
    }

    private Ratio[][] lifted(int player) {
        Ratio least = payoff[player][0][0];
        for (Ratio[] row : payoff[player]) {
            for (Ratio each : row) {
                least = each.compareTo(least) < 0 ? each : least;
            }
        }
        Ratio multiple = Ratio.of(multiple(player).longValueExact(), 1);
        Ratio[][] made = new Ratio[m][n];
        for (int i = 0; i < m; i++) {
            for (int j = 0; j < n; j++) {
                made[i][j] = Ratio.ONE.plus(multiple.times(payoff[player][i][j].minus(least)));
            }
        }
        return made;
    }

    /** A column for each label, the last one the RHS. */
    private Ratio[][] firstTable(int table) {
        Ratio[][] lifted = lifted(1 - table);
        int height = table == 0 ? n : m;
        Ratio[][] made = new Ratio[height][m + n + 1];
        for (int row = 0; row < height; row++) {
            for (int label = 0; label < m + n; label++) {
                boolean isRowLabel = label < m;
                Ratio own = label == (table == 0 ? m + row : row) ? Ratio.ONE : Ratio.ZERO;
                if (table == 0) {
                    made[row][label] = isRowLabel ? lifted[label][row] : own;
                } else {
                    made[row][label] = isRowLabel ? own : lifted[row][label - m];
                }
            }
            made[row][m + n] = Ratio.ONE;
        }
        return made;
    }

    int run(int label) {
        needGame();
        need(label >= 0 && label < m + n);
        Ratio[][][] tables = {firstTable(0), firstTable(1)};
        int[][] basic = {new int[n], new int[m]};
        for (int j = 0; j < n; j++) {
            basic[0][j] = m + j;
        }
        for (int i = 0; i < m; i++) {
            basic[1][i] = i;
        }
        List<int[]> done = new ArrayList<>();
        int table = label < m ? 0 : 1;
        int entering = label;
        while (true) {
            int row = leavingRow(tables[table], table, entering);
            int leaving = basic[table][row];
            basic[table][row] = entering;
            solveFor(tables[table], row, entering);
            done.add(new int[] {entering, leaving, table});
            if (leaving == label) {
                break;
            }
            entering = leaving;
            table = 1 - table;
        }
        runWeights = new Ratio[][] {values(tables[0], basic[0], 0, m), values(tables[1], basic[1], m, n)};
        steps = done;
        missing = label;
        return steps.size();
    }

    private int leavingRow(Ratio[][] cells, int table, int entering) {
        int best = -1;
        for (int row = 0; row < cells.length; row++) {
            if (cells[row][entering].signum() > 0 && (best < 0 || isLess(cells, table, entering, row, best))) {
                best = row;
            }
        }
        return best;
    }

    private boolean isLess(Ratio[][] cells, int table, int entering, int row, int than) {
        int from = table == 0 ? m : 0;
        for (int i = -1; i < cells.length; i++) {
            int at = i < 0 ? m + n : from + i;
            int order = cells[row][at].by(cells[row][entering])
                    .compareTo(cells[than][at].by(cells[than][entering]));
            if (order != 0) {
                return order < 0;
            }
        }
        throw new AssertionError("two rows are alike");
    }

    private static void solveFor(Ratio[][] cells, int row, int column) {
        Ratio pivot = cells[row][column];
        for (int j = 0; j < cells[row].length; j++) {
            cells[row][j] = cells[row][j].by(pivot);
        }
        for (int i = 0; i < cells.length; i++) {
            Ratio factor = cells[i][column];
            for (int j = 0; i != row && factor.signum() != 0 && j < cells[i].length; j++) {
                cells[i][j] = cells[i][j].minus(factor.times(cells[row][j]));
            }
        }
    }

    private Ratio[] values(Ratio[][] cells, int[] basic, int label, int count) {
        Ratio[] made = new Ratio[count];
        Ratio sum = Ratio.ZERO;
        for (int i = 0; i < count; i++) {
            made[i] = Ratio.ZERO;
            for (int row = 0; row < basic.length; row++) {
                made[i] = basic[row] == label + i ? cells[row][m + n] : made[i];
            }
            sum = sum.plus(made[i]);
        }
        for (int i = 0; i < count; i++) {
            made[i] = made[i].by(sum);
        }
        return made;
    }

    int step(int k, int what) {
        if (steps == null) {
            throw new IllegalStateException();
        }
        if (k < 0 || k >= steps.size()) {
            throw new IndexOutOfBoundsException();
        }
        need(what >= 0 && what <= 2);
        return steps.get(k)[what];
    }

    void weight(int player, int row, int above, int below) {
        needGame();
        need(isRow(player, row) && above >= 0 && above <= 999 && below >= 1 && below <= 999);
        told[player][row] = Ratio.of(above, below);
    }

    int list() {
        needGame();
        entries = new ArrayList<>();
        entryWeights = new ArrayList<>();
        for (int size = 1; size <= Math.min(m, n); size++) {
            for (int s = 1; s < 1 << m; s++) {
                for (int t = 1; t < 1 << n; t++) {
                    if (Integer.bitCount(s) == size && Integer.bitCount(t) == size && entries.size() < 100) {
                        addIfEntry(s, t);
                    }
                }
            }
        }
        return entries.size();
    }

    private void addIfEntry(int s, int t) {
        Ratio[] y = only(0, s, t);
        Ratio[] x = y == null ? null : only(1, t, s);
        if (x != null && noneBesideGetsMore(0, s, y) && noneBesideGetsMore(1, t, x)) {
            entries.add(new int[] {s, t});
            entryWeights.add(new Ratio[][] {x, y});
        }
    }

    private Ratio payoffOf(int player, int own, int other) {
        return player == 0 ? payoff[0][own][other] : payoff[1][other][own];
    }

    /** The only weights above 0 of the other one, on others alone, against which all owns get the same, or null. */
    private Ratio[] only(int player, int owns, int others) {
        int[] own = bits(owns);
        int[] other = bits(others);
        int size = own.length;
        Ratio[][] system = new Ratio[size + 1][size + 2];
        for (int i = 0; i <= size; i++) {
            for (int j = 0; j <= size; j++) {
                if (i < size && j < size) {
                    system[i][j] = payoffOf(player, own[i], other[j]);
                } else {
                    system[i][j] = i == size && j == size ? Ratio.ZERO : i < size ? Ratio.of(-1, 1) : Ratio.ONE;
                }
            }
            system[i][size + 1] = i < size ? Ratio.ZERO : Ratio.ONE;
        }
        if (determinantAfterSolving(system, size + 1).signum() == 0) {
            return null;
        }
        Ratio[] made = new Ratio[count(1 - player)];
        java.util.Arrays.fill(made, Ratio.ZERO);
        for (int j = 0; j < size; j++) {
            made[other[j]] = system[j][size + 1];
            if (made[other[j]].signum() <= 0) {
                return null;
            }
        }
        return made;
    }

    /** Solves a square system (with what columns there are more) in place; its determinant. */
    private static Ratio determinantAfterSolving(Ratio[][] system, int size) {
        Ratio determinant = Ratio.ONE;
        for (int column = 0; column < size; column++) {
            int row = column;
            while (row < size && system[row][column].signum() == 0) {
                row++;
            }
            if (row == size) {
                return Ratio.ZERO;
            }
            if (row != column) {
                Ratio[] other = system[row];
                system[row] = system[column];
                system[column] = other;
                determinant = Ratio.ZERO.minus(determinant);
            }
            determinant = determinant.times(system[column][column]);
            solveFor(system, column, column);
        }
        return determinant;
    }

    private boolean noneBesideGetsMore(int player, int owns, Ratio[] against) {
        Ratio same = value(player, bits(owns)[0], against);
        for (int row = 0; row < count(player); row++) {
            if (value(player, row, against).compareTo(same) > 0) {
                return false;
            }
        }
        return true;
    }

    private Ratio value(int player, int row, Ratio[] against) {
        Ratio sum = Ratio.ZERO;
        for (int other = 0; other < against.length; other++) {
            sum = sum.plus(payoffOf(player, row, other).times(against[other]));
        }
        return sum;
    }

    private static int[] bits(int set) {
        int[] made = new int[Integer.bitCount(set)];
        int count = 0;
        for (int i = 0; i < 6; i++) {
            if ((set >> i & 1) != 0) {
                made[count++] = i;
            }
        }
        return made;
    }

    private Ratio[][] source(int source) {
        boolean is = m > 0 && source >= -2;
        if (is && source == -2) {
            is = sum(told[0]).equals("1/1") && sum(told[1]).equals("1/1");
        } else if (is && source == -1) {
            is = steps != null;
        } else if (is) {
            is = entries != null && source < entries.size();
        }
        if (!is) {
            throw new IllegalStateException();
        }
        return source == -2 ? told : source == -1 ? runWeights : entryWeights.get(source);
    }

    private static String sum(Ratio[] weights) {
        Ratio sum = Ratio.ZERO;
        for (Ratio each : weights) {
            sum = sum.plus(each);
        }
        return sum.above + "/" + sum.below;
    }

    int support(int source, int player) {
        Ratio[][] both = source(source);
        need(isPlayer(player));
        int set = 0;
        for (int row = 0; row < count(player); row++) {
            set |= both[player][row].signum() > 0 ? 1 << row : 0;
        }
        return set;
    }

    int strategy(int source, int player, int row) {
        Ratio[][] both = source(source);
        need(isRow(player, row));
        hand = both[player][row];
        return hand.signum();
    }

    private Ratio ownValue(Ratio[][] both, int player) {
        Ratio sum = Ratio.ZERO;
        for (int row = 0; row < count(player); row++) {
            sum = sum.plus(both[player][row].times(value(player, row, both[1 - player])));
        }
        return sum;
    }

    int gets(int source, int player, int row) {
        Ratio[][] both = source(source);
        need(isPlayer(player) && (row == -1 || isRow(player, row)));
        hand = row == -1 ? ownValue(both, player) : value(player, row, both[1 - player]);
        return hand.signum();
    }

    private int best(Ratio[][] both, int player) {
        int set = 0;
        for (int row = 0; row < count(player); row++) {
            boolean is = true;
            for (int other = 0; other < count(player); other++) {
                is &= value(player, row, both[1 - player]).compareTo(value(player, other, both[1 - player])) >= 0;
            }
            set |= is ? 1 << row : 0;
        }
        return set;
    }

    int replies(int source, int player) {
        Ratio[][] both = source(source);
        need(isPlayer(player));
        int set = best(both, player);
        hand = value(player, bits(set)[0], both[1 - player]).minus(ownValue(both, player));
        return set;
    }

    boolean judge(int source) {
        Ratio[][] both = source(source);
        return (support(source, 0) & ~best(both, 0)) == 0 && (support(source, 1) & ~best(both, 1)) == 0;
    }

    int index(int entry) {
        if (entries == null || entry < 0 || entry >= entries.size()) {
            throw new IllegalStateException();
        }
        int[] s = bits(entries.get(entry)[0]);
        int[] t = bits(entries.get(entry)[1]);
        int both = 1;
        for (int player = 0; player < 2; player++) {
            Ratio[][] lifted = lifted(player);
            Ratio[][] part = new Ratio[s.length][s.length];
            for (int i = 0; i < s.length; i++) {
                for (int j = 0; j < s.length; j++) {
                    part[i][j] = lifted[s[i]][t[j]];
                }
            }
            both *= determinantAfterSolving(part, s.length).signum();
        }
        return s.length % 2 == 0 ? -both : both;
    }

    int round() {
        needGame();
        boolean[][] stay = {there[0].clone(), there[1].clone()};
        int gone = 0;
        for (int player = 0; player < 2; player++) {
            for (int row = 0; row < count(player); row++) {
                if (there[player][row] && isDominated(player, row)) {
                    stay[player][row] = false;
                    gone++;
                }
            }
        }
        there = stay;
        return gone;
    }

    private boolean isDominated(int player, int row) {
        for (int by = 0; by < count(player); by++) {
            boolean is = there[player][by] && by != row;
            for (int other = 0; other < count(1 - player); other++) {
                is &= !there[1 - player][other]
                        || payoffOf(player, by, other).compareTo(payoffOf(player, row, other)) > 0;
            }
            if (is) {
                return true;
            }
        }
        return false;
    }

    boolean isThere(int player, int row) {
        needGame();
        need(isRow(player, row));
        return there[player][row];
    }

    long part(boolean below, int k) {
        if (k < 0) {
            throw new IndexOutOfBoundsException();
        }
        BigInteger number = below ? hand.below : hand.above.abs();
        return k > 1000 ? 0 : number.shiftRight(64 * k).longValue();
    }

    int sign() {
        return hand.signum();
    }

    int told(int what) {
        need(what >= 0 && what <= 6);
        switch (what) {
            case 0:
                return m;
            case 1:
                return n;
            case 2:
                return m == 0 || steps == null ? 0 : steps.size();
            case 3:
                return m == 0 || entries == null ? 0 : entries.size();
            case 4:
                return m == 0 || steps == null ? -1 : missing;
            default:
                return m == 0 ? 0 : multiple(what - 5).intValueExact();
        }
    }
}
