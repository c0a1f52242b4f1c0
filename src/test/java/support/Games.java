import java.math.BigInteger;

/** Games that several tests use, and how they are told and read. */
final class Games {
    private Games() {
    }

    /** A: 3, 0 / 0, 1; B: 1, 0 / 0, 3/2. Two pure equilibria and x = 3/5, 2/5 with y = 1/4, 3/4. */
    static BestReplies two() {
        BestReplies x = new BestReplies();
        x.game(2, 2);
        x.pay(0, 0, 0, 3, 1);
        x.pay(0, 1, 1, 1, 1);
        x.pay(1, 0, 0, 1, 1);
        x.pay(1, 1, 1, 3, 2);
        return x;
    }

    /** A new object with a game of whole payoffs. */
    static BestReplies of(int[][] a, int[][] b) {
        BestReplies x = new BestReplies();
        tell(x, a, b);
        return x;
    }

    static void tell(BestReplies x, int[][] a, int[][] b) {
        x.game(a.length, a[0].length);
        for (int i = 0; i < a.length; i++) {
            for (int j = 0; j < a[i].length; j++) {
                x.pay(0, i, j, a[i][j], 1);
                x.pay(1, i, j, b[i][j], 1);
            }
        }
    }

    /**
     * Both players get 1 if they play of one block, and 0 if not; the k-th block has rows[k] rows and columns[k]
     * columns. Entries are one row and one column of some blocks: (1 + r * c) for all blocks, multiplied, less 1.
     */
    static BestReplies blocks(int[] rows, int[] columns) {
        int[] blockOfRow = blockOfEach(rows);
        int[] blockOfColumn = blockOfEach(columns);
        int[][] pay = new int[blockOfRow.length][blockOfColumn.length];
        for (int i = 0; i < blockOfRow.length; i++) {
            for (int j = 0; j < blockOfColumn.length; j++) {
                pay[i][j] = blockOfRow[i] == blockOfColumn[j] ? 1 : 0;
            }
        }
        return of(pay, pay);
    }

    private static int[] blockOfEach(int[] sizes) {
        int[] made = new int[java.util.Arrays.stream(sizes).sum()];
        int at = 0;
        for (int block = 0; block < sizes.length; block++) {
            for (int i = 0; i < sizes[block]; i++) {
                made[at++] = block;
            }
        }
        return made;
    }

    static void tellPure(BestReplies x, int row, int column) {
        x.weight(0, row, 1, 1);
        x.weight(1, column, 1, 1);
    }

    /** Tells all weights anew: one row and one column. */
    static void tellOnly(BestReplies x, int row, int column) {
        for (int player = 0; player < 2; player++) {
            for (int i = 0; i < x.told(player); i++) {
                x.weight(player, i, i == (player == 0 ? row : column) ? 1 : 0, 1);
            }
        }
    }

    /** The whole number at hand. */
    static String hand(BestReplies x) {
        return (x.sign() < 0 ? "-" : "") + number(x, false) + "/" + number(x, true);
    }

    private static BigInteger number(BestReplies x, boolean below) {
        BigInteger all = BigInteger.ZERO;
        for (int k = 9; k >= 0; k--) {
            BigInteger word = new BigInteger(Long.toUnsignedString(x.part(below, k)));
            all = all.shiftLeft(64).or(word);
        }
        return all;
    }
}
