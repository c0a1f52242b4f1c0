import java.util.Random;

/** All promises: the answers of many games, and of wild runs of calls, against those of Reference. */
public final class RandomRunsTest {
    private static final int[] DENOMINATORS = {5, 7, 8, 9, 11, 12};
    /** Its determinant is 9 or -9, and none of 0 and 1 has a larger one. */
    private static final int[][] LARGEST = {
        {0, 0, 1, 0, 0, 1}, {1, 0, 1, 1, 1, 0}, {1, 1, 1, 1, 0, 0}, {1, 1, 0, 0, 1, 1}, {0, 1, 0, 1, 1, 1},
        {0, 1, 1, 0, 1, 0},
    };

    public static void main(String[] args) {
        Random random = new Random(20261115);
        largestNumbers(random);
        for (int i = 0; i < 220; i++) {
            wholeGame(new Pair("game " + i), random, i);
        }
        for (int i = 0; i < 400; i++) {
            wildRun(new Pair("wild run " + i), random);
        }
        Check.finish();
    }

    /** Payoffs of both ends, and five cells whose denominators have the largest multiple, 27720. */
    private static void largestNumbers(Random random) {
        int[][] cells = {{0, 1}, {0, 3}, {1, 2}, {2, 5}, {4, 3}};
        int[] below = {5, 7, 8, 9, 11};
        for (int kind = 0; kind < 6; kind++) {
            Pair pair = new Pair("largest numbers " + kind);
            pair.game(6, 6);
            for (int i = 0; i < 6; i++) {
                for (int j = 0; j < 6; j++) {
                    largestPayoffs(pair, kind, i, j);
                }
            }
            for (int k = 0; k < cells.length; k++) {
                pair.pay(0, cells[k][0], cells[k][1], kind % 2 == 0 ? 9997 : -9997, below[k]);
                pair.pay(1, cells[k][1], cells[k][0], kind % 2 == 0 ? -9997 : 9997, below[k]);
            }
            pair.told(5);
            pair.told(6);
            askBig(pair, random, 6, 6);
        }
    }

    private static void largestPayoffs(Pair pair, int kind, int i, int j) {
        boolean isFirst = LARGEST[i][j] == 1;
        boolean isSecond = LARGEST[j][i] == 1;
        if (kind < 2) {
            isSecond = !isFirst;
        } else if (kind >= 4) { // Both want the same, so that there is an entry with all rows and columns.
            isFirst = i == j;
            isSecond = i == j;
        }
        pair.pay(0, i, j, isFirst ? 9999 - i : -9999, 1);
        pair.pay(1, i, j, isSecond ? 9999 - 7 * i : -9999, 1);
    }

    /** One game, all that can be asked of it. */
    private static void wholeGame(Pair pair, Random random, int number) {
        boolean isLarge = number % 10 == 0;
        int m = isLarge ? 6 : 1 + random.nextInt(number % 3 == 0 ? 6 : 4);
        int n = isLarge ? 6 : 1 + random.nextInt(number % 3 == 0 ? 6 : 4);
        pair.game(m, n);
        fillGame(pair, random, m, n, number % 7);
        askBig(pair, random, m, n);
        for (int round = 0; round < 4; round++) {
            pair.round();
            askThere(pair, m, n);
        }
        tellWeights(pair, random, 0, m);
        tellWeights(pair, random, 1, n);
        askSource(pair, -2, m, n);
        for (int what = -1; what < 9; what++) {
            pair.told(what);
        }
    }

    private static void askBig(Pair pair, Random random, int m, int n) {
        for (int label = 0; label < m + n; label++) {
            int steps = pair.run(label);
            for (int k = -1; k <= steps; k++) {
                for (int what = -1; what <= 3; what++) {
                    pair.step(k, what);
                }
            }
            askSource(pair, -1, m, n);
        }
        int entries = pair.list();
        for (int entry = 0; entry < entries; entry++) {
            pair.index(entry);
            if (entries < 10 || random.nextInt(entries) < 5) {
                askSource(pair, entry, m, n);
            }
        }
        askSource(pair, entries, m, n);
        pair.index(entries);
    }

    private static void askThere(Pair pair, int m, int n) {
        for (int row = 0; row < m; row++) {
            pair.isThere(0, row);
        }
        for (int column = 0; column < n; column++) {
            pair.isThere(1, column);
        }
    }

    private static void askSource(Pair pair, int source, int m, int n) {
        pair.judge(source);
        for (int player = 0; player < 2; player++) {
            pair.support(source, player);
            pair.replies(source, player);
            pair.hand();
            for (int row = -1; row <= (player == 0 ? m : n); row++) {
                pair.strategy(source, player, row);
                pair.hand();
                pair.gets(source, player, row);
                pair.hand();
            }
        }
    }

    private static void fillGame(Pair pair, Random random, int m, int n, int kind) {
        for (int player = 0; player < 2; player++) {
            for (int i = 0; i < m; i++) {
                for (int j = 0; j < n; j++) {
                    fillCell(pair, random, kind, player, i, j);
                }
            }
        }
    }

    private static void fillCell(Pair pair, Random random, int kind, int player, int i, int j) {
        switch (kind) {
            case 0: // The largest numbers there are.
                int below = DENOMINATORS[random.nextInt(6)];
                pair.pay(player, i, j, random.nextBoolean() ? 9999 : -9999, random.nextInt(4) == 0 ? below : 1);
                break;
            case 1: // Many ties.
                pair.pay(player, i, j, random.nextInt(2), 1);
                break;
            case 2:
                pair.pay(player, i, j, random.nextInt(19999) - 9999, 1 + random.nextInt(12));
                break;
            case 3:
                pair.pay(player, i, j, random.nextInt(7) - 3, 1 + random.nextInt(3));
                break;
            case 4: // Most are 0.
                pair.pay(player, i, j, random.nextInt(4) == 0 ? 1 : 0, 1 + random.nextInt(2));
                break;
            case 5: // Both want the same, nearly.
                pair.pay(player, i, j, i == j ? 10 + i : random.nextInt(3), 1);
                break;
            default: // Rows in an order, so that some are dominated.
                pair.pay(player, i, j, 3 * (player == 0 ? i : j) + random.nextInt(5), 1);
                break;
        }
    }

    /** Weights that are together 1, most times. */
    private static void tellWeights(Pair pair, Random random, int player, int count) {
        int whole = 1 + random.nextInt(900);
        int left = whole;
        for (int row = 0; row < count; row++) {
            int share = row == count - 1 ? left : random.nextInt(left + 1);
            left -= share;
            pair.weight(player, row, share, whole);
        }
    }

    /** Any calls with any arguments, many of them wrong. */
    private static void wildRun(Pair pair, Random random) {
        int most = random.nextInt(4) == 0 ? 6 : 3;
        for (int call = 0; call < 500; call++) {
            wildCall(pair, random, random.nextInt(100), most);
        }
    }

    private static void wildCall(Pair pair, Random random, int kind, int most) {
        int player = near(random, 2);
        if (kind < 1) {
            pair.fresh();
        } else if (kind < 4) {
            pair.game(1 + near(random, most), 1 + near(random, most));
        } else if (kind < 24) {
            pair.pay(player, near(random, most), near(random, most), edge(random, -9999, 9999), edge(random, 1, 12));
        } else if (kind < 34) {
            pair.run(near(random, 2 * most));
        } else if (kind < 39) {
            pair.step(near(random, 4), near(random, 3));
        } else if (kind < 54) {
            boolean isOne = random.nextInt(3) == 0;
            pair.weight(player, near(random, most), isOne ? 1 : edge(random, 0, 3), isOne ? 1 : edge(random, 1, 4));
        } else if (kind < 57) {
            pair.list();
        } else if (kind < 61) {
            pair.support(near(random, 4) - 2, player);
        } else if (kind < 67) {
            pair.strategy(near(random, 4) - 2, player, near(random, most));
        } else if (kind < 75) {
            pair.gets(near(random, 4) - 2, player, near(random, most + 1) - 1);
        } else if (kind < 80) {
            pair.replies(near(random, 4) - 2, player);
        } else if (kind < 84) {
            pair.judge(near(random, 4) - 2);
        } else if (kind < 86) {
            pair.index(near(random, 4));
        } else if (kind < 89) {
            pair.round();
        } else if (kind < 92) {
            pair.isThere(player, near(random, most));
        } else if (kind < 96) {
            pair.part(random.nextBoolean(), near(random, 3));
        } else if (kind < 98) {
            pair.sign();
        } else {
            pair.told(near(random, 7));
        }
    }

    /** Mostly 0 .. count - 1; now and then beside it, or far away. */
    private static int near(Random random, int count) {
        int kind = random.nextInt(60);
        if (kind == 0) {
            return -1;
        } else if (kind == 1) {
            return count;
        } else if (kind == 2) {
            return random.nextBoolean() ? Integer.MAX_VALUE : Integer.MIN_VALUE;
        }
        return random.nextInt(count);
    }

    private static int edge(Random random, int least, int most) {
        int kind = random.nextInt(40);
        if (kind == 0) {
            return least - 1;
        } else if (kind == 1) {
            return most + 1;
        } else if (kind == 2) {
            return random.nextBoolean() ? Integer.MAX_VALUE : Integer.MIN_VALUE;
        } else if (kind < 20) {
            return Math.max(least, Math.min(most, random.nextInt(5) - 2));
        }
        return least + random.nextInt(most - least + 1);
    }
}
