import java.math.BigInteger;

/** The sentences of the document that name a boundary case, each with a test of its own, in the document's order. */
public final class BoundariesTest {
    private static final int MIN = Integer.MIN_VALUE;
    private static final int MAX = Integer.MAX_VALUE;
    private static final int[] ENDS = {1, 6};
    /** A game with many ties, in which paths are long. */
    private static final int[][] TIES_A = {{0, 2, 2}, {0, 0, 1}, {1, 1, 2}};
    private static final int[][] TIES_B = {{2, 0, 1}, {2, 2, 0}, {0, 0, 0}};

    public static void main(String[] args) {
        handIsZeroAtFirst();
        handIsInLeastTerms();
        gamesOfAllEnds();
        gameInPlaceOfOne();
        labelsOfAllEnds();
        stepsOfTheLastRun();
        tieWithAVariableThatIsBasicAgain();
        pathsOfThreeRowsAndTwoColumns();
        payoffsOfAllEnds();
        payOfEitherPlayerForgets();
        weightsOfAllEnds();
        listOfFew();
        listThatIsNotQuiteFull();
        listThatIsFull();
        listOfSupportsOfOneSizeAlone();
        sourcesThatThereAreNot();
        whatHisOwnStrategyGets();
        bestRepliesGetAsMuchAsAny();
        roundsInWhichNothingGoes();
        roundTakesAllThatAreDominatedAtItsBeginning();
        roundsOneAfterAnother();
        partsOfLongNumbers();
        partsBeyond();
        toldWithout();
        multiplesOfDenominatorsInLeastTerms();
        Check.finish();
    }

    // ---- NUMBERS

    /** 'It is 0 at first', and only calls that say so leave one. */
    private static void handIsZeroAtFirst() {
        BestReplies x = new BestReplies();
        Check.due("at first: sign", x.sign(), 0);
        Check.due("at first: numerator", x.part(false, 0), 0);
        Check.due("at first: denominator", x.part(true, 0), 1);
        x.game(2, 2);
        x.pay(0, 1, 1, 7, 3);
        Games.tellPure(x, 1, 1);
        x.run(0);
        x.list();
        x.step(0, 0);
        for (int source = -2; source < 1; source++) {
            x.support(source, 0);
            x.judge(source);
        }
        x.index(0);
        x.round();
        x.isThere(0, 0);
        x.told(5);
        Check.due("at first: after calls that leave none", Games.hand(x), "0/1");
        x.gets(-2, 0, 1);
        x.game(1, 1);
        Check.due("a new game leaves none", Games.hand(x), "7/3");
    }

    /** 'In least terms, its denominator above 0'. */
    private static void handIsInLeastTerms() {
        BestReplies x = new BestReplies();
        x.game(2, 2);
        Games.tellPure(x, 0, 0);
        int[][] told = {{-9999, 9}, {6, 4}, {-6, 4}, {12, 12}, {0, 12}, {-1, 12}, {9998, 2}, {8, 12}};
        String[] due = {"-1111/1", "3/2", "-3/2", "1/1", "0/1", "-1/12", "4999/1", "2/3"};
        for (int i = 0; i < told.length; i++) {
            x.pay(0, 0, 0, told[i][0], told[i][1]);
            x.gets(-2, 0, 0);
            Check.due("least terms of a row", Games.hand(x), due[i]);
            x.gets(-2, 0, -1);
            Check.due("least terms of a strategy", Games.hand(x), due[i]);
        }
        x.pay(0, 0, 0, -3, 4);
        x.pay(0, 1, 0, -3, 2);
        x.replies(-2, 0);
        Check.due("best replies get no more", Games.hand(x), "0/1");
        Games.tellOnly(x, 1, 0);
        x.replies(-2, 0);
        Check.due("-3/4 is 3/4 more than -3/2", Games.hand(x), "3/4");
        x.weight(0, 0, 500, 750);
        x.weight(0, 1, 333, 999);
        x.strategy(-2, 0, 0);
        Check.due("least terms of a weight", Games.hand(x), "2/3");
    }

    // ---- promise 2

    /** '1 .. 6 each': what lies at the ends is there, what is beyond is not. */
    private static void gamesOfAllEnds() {
        for (int m : ENDS) {
            for (int n : ENDS) {
                BestReplies x = new BestReplies();
                x.game(m, n);
                int[] counts = {m, n};
                for (int player = 0; player < 2; player++) {
                    int p = player;
                    int last = counts[p] - 1;
                    String story = m + " by " + n + ", player " + p;
                    Check.due(story + ": told", x.told(p), counts[p]);
                    Check.due(story + ": the last is there", x.isThere(p, last), true);
                    Check.argument(story + ": one more", () -> x.isThere(p, last + 1));
                    Check.argument(story + ": its weight", () -> Check.nothing(() -> x.weight(p, last + 1, 0, 1)));
                    x.pay(p, m - 1, n - 1, p + 1, 1);
                    Check.argument(story + ": a row more", () -> Check.nothing(() -> x.pay(p, m, 0, 1, 1)));
                    Check.argument(story + ": a column more", () -> Check.nothing(() -> x.pay(p, 0, n, 1, 1)));
                }
                Games.tellPure(x, m - 1, n - 1);
                Check.due("the last row gets", x.gets(-2, 0, m - 1), 1);
                Check.due("the last row gets", Games.hand(x), "1/1");
                Check.due("the last column gets", x.gets(-2, 1, n - 1), 1);
                Check.due("the last column gets", Games.hand(x), "2/1");
                Check.due("the last row's support", x.support(-2, 0), 1 << m - 1);
                Check.due("the last column's support", x.support(-2, 1), 1 << n - 1);
            }
        }
    }

    /** 'In place of one that there was': nothing of it is left, whatever the sizes are. */
    private static void gameInPlaceOfOne() {
        int[][] sizes = {{1, 1}, {6, 6}, {6, 1}, {1, 6}, {2, 5}, {6, 6}};
        for (int[] size : sizes) {
            BestReplies x = full();
            x.game(1, 1);
            x.game(size[0], size[1]);
            BestReplies fresh = new BestReplies();
            fresh.game(size[0], size[1]);
            Check.due("in place: all", View.butForHand(x), View.butForHand(fresh));
            BestReplies y = full();
            y.game(size[0], size[1]);
            Check.due("in place: supports", y.list(), size[0] * size[1]);
            Check.due("in place: a run", y.run(0), fresh.run(0));
            Check.due("in place: nothing is dominated", y.round(), 0);
        }
    }

    /** A game of 6 rows and 6 columns, of which all was asked. */
    private static BestReplies full() {
        BestReplies x = new BestReplies();
        x.game(6, 6);
        for (int i = 0; i < 6; i++) {
            for (int j = 0; j < 6; j++) {
                x.pay(0, i, j, -9000 + 100 * i + j, 1 + i + j);
                x.pay(1, i, j, 7 * j - i, 12 - i - j);
            }
            x.weight(0, i, 1, 6);
            x.weight(1, i, 1, 6);
        }
        x.run(11);
        x.list();
        x.round();
        x.gets(-2, 0, -1);
        return x;
    }

    // ---- promises 4 and 5

    /** Labels are '0 .. m - 1 for the rows, m .. m + n - 1 for the columns'. */
    private static void labelsOfAllEnds() {
        for (int m : ENDS) {
            for (int n : ENDS) {
                BestReplies x = new BestReplies();
                x.game(m, n);
                int[] labels = {0, m - 1, m, m + n - 1};
                for (int label : labels) {
                    Check.due("label " + label + ": steps are told", x.run(label), x.told(2));
                    Check.due("label " + label + ": told", x.told(4), label);
                    Check.due("label " + label + " enters first", x.step(0, 0), label);
                    Check.due("label " + label + ": its table", x.step(0, 2), label < m ? 0 : 1);
                    Check.due("label " + label + " leaves last", x.step(x.told(2) - 1, 1), label);
                    Check.due("label " + label + ": an equilibrium", x.judge(-1), true);
                }
                int[] none = {-1, m + n, 12, MIN, MAX};
                for (int label : none) {
                    Check.argument("no label " + label, () -> x.run(label));
                    Check.due("after no label the last run is there", x.told(4), m + n - 1);
                }
            }
        }
    }

    /** 'STEP k (from 0) of the last RUN': a longer one before it leaves no steps behind. */
    private static void stepsOfTheLastRun() {
        BestReplies x = Games.of(TIES_A, TIES_B);
        Check.due("a long run", x.run(1), 9);
        Check.due("its last step", x.step(8, 1), 1);
        int steps = x.run(2);
        Check.due("a shorter run", steps < 9, true);
        Check.due("its last step", x.step(steps - 1, 1), 2);
        int[] none = {steps, 8, -1, 9, MIN, MAX};
        for (int k : none) {
            Check.bounds("no step " + k, () -> x.step(k, 0));
            Check.bounds("no step " + k + ", and another what", () -> x.step(k, 3));
        }
        int[] others = {-1, 3, MIN, MAX};
        for (int what : others) {
            Check.argument("another what " + what, () -> x.step(0, what));
            Check.argument("another what " + what, () -> x.step(steps - 1, what));
        }
        x.pay(1, 2, 2, 0, 1);
        Check.state("no run, no step, another what", () -> x.step(-1, 3));
        Check.state("no run", () -> x.step(0, 0));
        x.run(0);
        x.game(3, 3);
        Check.state("no run of a new game", () -> x.step(0, 0));
    }

    /**
     * '1 for one in its own row, if it is basic again, 0 in the rows of others': in table 0 the variable of label 3
     * leaves and enters again. The path is another one if such a variable is passed over or turned, if ties are
     * broken in another order or by the rows' places, or if the c are not divided by that of the entering one.
     */
    private static void tieWithAVariableThatIsBasicAgain() {
        BestReplies x = Games.of(TIES_A, TIES_B);
        int[][] due = {
            {1, 4, 0}, {4, 0, 1}, {0, 3, 0}, {3, 2, 1}, {2, 5, 0}, {5, 3, 1}, {3, 0, 0}, {0, 4, 1}, {4, 1, 0},
        };
        Check.due("ties: steps", x.run(1), due.length);
        checkPath("ties", x, due);
        Check.due("ties: rows", x.support(-1, 0), 4);
        Check.due("ties: columns", x.support(-1, 1), 4);
    }

    private static void checkPath(String story, BestReplies x, int[][] due) {
        for (int k = 0; k < due.length; k++) {
            for (int what = 0; what < 3; what++) {
                Check.due(story + ": step " + k + ", " + what, x.step(k, what), due[k][what]);
            }
        }
    }

    /** A game that textbooks show; its three equilibria are known, and which of them the labels lead to. */
    private static void pathsOfThreeRowsAndTwoColumns() {
        BestReplies x = Games.of(new int[][] {{3, 3}, {2, 5}, {0, 6}}, new int[][] {{3, 2}, {2, 6}, {3, 1}});
        Check.due("three by two: entries", x.list(), 3);
        String[][] due = {
            {"1/1", "0/1", "0/1", "1/1", "0/1"},
            {"4/5", "1/5", "0/1", "2/3", "1/3"},
            {"0/1", "1/3", "2/3", "1/3", "2/3"},
        };
        int[] indices = {1, -1, 1};
        for (int entry = 0; entry < 3; entry++) {
            checkStrategies("three by two: entry " + entry, x, entry, due[entry]);
            Check.due("three by two: index " + entry, x.index(entry), indices[entry]);
        }
        int[] ends = {0, 2, 0, 0, 2};
        int[][][] paths = {
            {{0, 3, 0}, {3, 0, 1}},
            {{1, 4, 0}, {4, 2, 1}, {2, 3, 0}, {3, 1, 1}},
            {{2, 3, 0}, {3, 0, 1}, {0, 2, 0}},
            {{3, 0, 1}, {0, 3, 0}},
            {{4, 2, 1}, {2, 3, 0}, {3, 1, 1}, {1, 4, 0}},
        };
        for (int label = 0; label < 5; label++) {
            Check.due("three by two: steps from " + label, x.run(label), paths[label].length);
            checkPath("three by two: from " + label, x, paths[label]);
            checkStrategies("three by two: from " + label, x, -1, due[ends[label]]);
        }
    }

    private static void checkStrategies(String story, BestReplies x, int source, String[] due) {
        for (int label = 0; label < due.length; label++) {
            int player = label < x.told(0) ? 0 : 1;
            int row = player == 0 ? label : label - x.told(0);
            Check.due(story + ": sign", x.strategy(source, player, row), due[label].equals("0/1") ? 0 : 1);
            Check.due(story + ": weight", Games.hand(x), due[label]);
        }
    }

    // ---- promise 3

    /** 'Above is not -9999 .. 9999, below not 1 .. 12', for each player at each end of the rows and columns. */
    private static void payoffsOfAllEnds() {
        BestReplies x = new BestReplies();
        x.game(6, 6);
        int[][] ends = {{-9999, 1}, {9999, 1}, {-9999, 12}, {9999, 12}, {0, 1}, {0, 12}};
        String[] due = {"-9999/1", "9999/1", "-3333/4", "3333/4", "0/1", "0/1"};
        for (int corner = 0; corner < 4; corner++) {
            int row = corner / 2 * 5;
            int column = corner % 2 * 5;
            Games.tellOnly(x, row, column);
            for (int i = 0; i < ends.length; i++) {
                x.pay(0, row, column, ends[i][0], ends[i][1]);
                x.pay(1, row, column, -ends[i][0], ends[i][1]);
                x.gets(-2, 0, row);
                Check.due("payoff", Games.hand(x), due[i]);
                Check.due("its turned one's sign", x.gets(-2, 1, column), -Integer.signum(ends[i][0]));
            }
            x.pay(0, row, column, 5, 3);
            x.pay(1, row, column, 5, 3);
            for (int player = 0; player < 2; player++) {
                payoffsBeyond(x, player, row, column);
            }
        }
    }

    private static void payoffsBeyond(BestReplies x, int player, int row, int column) {
        int[][] beyond = {{-10000, 1}, {10000, 1}, {1, 0}, {1, 13}, {1, -1}, {MIN, 1}, {MAX, 1}, {1, MIN}, {1, MAX}};
        for (int[] each : beyond) {
            Check.argument("payoff " + each[0] + " / " + each[1],
                    () -> Check.nothing(() -> x.pay(player, row, column, each[0], each[1])));
            x.gets(-2, player, -1);
            Check.due("the payoff is as before", Games.hand(x), "5/3");
        }
    }

    /** 'The RUN and the LIST are gone, all rows and columns are there again', even if the payoff is as before. */
    private static void payOfEitherPlayerForgets() {
        int[][] first = {{2, 2}, {1, 1}};
        int[][] second = {{2, 1}, {2, 1}};
        for (int player = 0; player < 2; player++) {
            BestReplies x = Games.of(first, second);
            Games.tellPure(x, 0, 0);
            x.run(3);
            x.list();
            Check.due("a row and a column go", x.round(), 2);
            x.pay(player, 0, 0, 2, 1);
            Check.due("the run is gone", x.told(2), 0);
            Check.due("its label is gone", x.told(4), -1);
            Check.due("the list is gone", x.told(3), 0);
            Check.state("no step", () -> x.step(0, 0));
            Check.state("no run", () -> x.judge(-1));
            Check.state("no entry", () -> x.judge(0));
            Check.state("no index", () -> x.index(0));
            Check.due("the row is there again", x.isThere(0, 1), true);
            Check.due("the column is there again", x.isThere(1, 1), true);
            Check.due("the weights are as before", x.judge(-2), true);
            Check.due("both go again", x.round(), 2);
        }
    }

    // ---- promise 6

    /** 'Above not 0 .. 999, below not 1 .. 999', for each player at the first and the last of his. */
    private static void weightsOfAllEnds() {
        for (int player = 0; player < 2; player++) {
            for (int row = 0; row < 6; row += 5) {
                BestReplies x = new BestReplies();
                x.game(6, 6);
                x.weight(1 - player, 2, 1, 1);
                weightsWithin(x, player, row);
                weightsBeyond(x, player, row);
            }
        }
    }

    private static void weightsWithin(BestReplies x, int player, int row) {
        x.weight(player, row, 999, 999);
        Check.due("999/999", x.strategy(-2, player, row), 1);
        Check.due("999/999", Games.hand(x), "1/1");
        x.weight(player, row, 1, 999);
        Check.state("1/999 alone", () -> x.judge(-2));
        x.weight(player, 3, 998, 999);
        Check.due("1/999", x.strategy(-2, player, row), 1);
        Check.due("1/999", Games.hand(x), "1/999");
        x.weight(player, row, 0, 999);
        Check.state("998/999 alone", () -> x.judge(-2));
        x.weight(player, 3, 1, 1);
        Check.due("0/999", x.strategy(-2, player, row), 0);
        Check.due("0/999", Games.hand(x), "0/1");
        x.weight(player, row, 999, 1);
        Check.state("1000 in all", () -> x.judge(-2));
        x.weight(player, row, 0, 1);
        Check.due("0/1", x.support(-2, player), 8);
    }

    private static void weightsBeyond(BestReplies x, int player, int row) {
        int[][] beyond = {{-1, 1}, {1000, 1}, {1, 0}, {1, 1000}, {1, -1}, {MIN, 1}, {MAX, 1}, {1, MIN}, {1, MAX}};
        for (int[] each : beyond) {
            Check.argument("weight " + each[0] + " / " + each[1],
                    () -> Check.nothing(() -> x.weight(player, row, each[0], each[1])));
            Check.due("the weights are as before", x.support(-2, player), 8);
        }
    }

    // ---- promise 7

    private static void listOfFew() {
        BestReplies x = new BestReplies();
        x.game(1, 1);
        Check.due("the least list", x.list(), 1);
        Check.due("its index", x.index(0), 1);
        Check.due("its weight", x.strategy(0, 1, 0), 1);
        Check.state("no second one", () -> x.judge(1));
        Check.state("no second one", () -> x.index(1));
        BestReplies none = Situation.EMPTY_LIST.make();
        Check.due("a list of none", none.list(), 0);
        Check.due("a list of none is told", none.told(3), 0);
        Check.state("a list of none", () -> none.judge(0));
        Check.state("a list of none", () -> none.index(0));
        Check.due("a run finds one all the same", none.run(0) > 0 && none.judge(-1), true);
    }

    private static void listThatIsNotQuiteFull() {
        checkBlocks(new int[] {3, 2, 1}, new int[] {3, 2, 1}, 99);
        checkBlocks(new int[] {3, 3}, new int[] {3, 3}, 99);
        checkBlocks(new int[] {2, 2, 2}, new int[] {2, 2, 1}, 74);
        checkBlocks(new int[] {1, 1, 1, 1, 1, 1}, new int[] {1, 1, 1, 1, 1, 1}, 63);
    }

    /** 'The first 100 such are its entries'. */
    private static void listThatIsFull() {
        BestReplies x = checkBlocks(new int[] {2, 2, 2}, new int[] {2, 2, 2}, 124);
        checkBlocks(new int[] {2, 3, 1}, new int[] {2, 2, 2}, 104);
        Check.due("full: again", x.list(), 100);
        Check.due("full: the last one", x.judge(99), true);
        Check.due("full: the last one's index", x.index(99), 1);
        int[] beyond = {100, 101, 123, 124, MAX};
        for (int entry : beyond) {
            Check.state("full: none more", () -> x.judge(entry));
            Check.state("full: none more", () -> x.index(entry));
            Check.state("full: none more", () -> x.support(entry, 0));
        }
        x.pay(0, 0, 0, 2, 1);
        Check.due("full: gone", x.told(3), 0);
        Check.state("full: gone", () -> x.judge(99));
    }

    /** An entry has one row and one column of each of some blocks: by size, then rows, then columns. */
    private static BestReplies checkBlocks(int[] rows, int[] columns, int all) {
        BestReplies x = Games.blocks(rows, columns);
        Check.due("blocks: entries", x.list(), Math.min(100, all));
        Check.due("blocks: told", x.told(3), Math.min(100, all));
        int found = 0;
        for (int size = 1; size <= rows.length; size++) {
            for (int s = 1; s < 1 << x.told(0); s++) {
                for (int t = 1; t < 1 << x.told(1); t++) {
                    if (Integer.bitCount(s) != size || !isOneOfEach(rows, s, columns, t)) {
                        continue;
                    }
                    if (found < 100) {
                        Check.due("blocks: rows of " + found, x.support(found, 0), s);
                        Check.due("blocks: columns of " + found, x.support(found, 1), t);
                        Check.due("blocks: index of " + found, x.index(found), size % 2 == 0 ? -1 : 1);
                    }
                    found++;
                }
            }
        }
        Check.due("blocks: in all", found, all);
        Check.state("blocks: none more", () -> x.support(Math.min(100, all), 0));
        return x;
    }

    private static boolean isOneOfEach(int[] rows, int s, int[] columns, int t) {
        int row = 0;
        int column = 0;
        for (int block = 0; block < rows.length; block++) {
            int ofRows = Integer.bitCount(s >> row & (1 << rows[block]) - 1);
            int ofColumns = Integer.bitCount(t >> column & (1 << columns[block]) - 1);
            if (ofRows != ofColumns || ofRows > 1) {
                return false;
            }
            row += rows[block];
            column += columns[block];
        }
        return true;
    }

    /** In a game of many rows and few columns sizes end at the fewer ones, on either side. */
    private static void listOfSupportsOfOneSizeAlone() {
        int[][] pennies = {{1, 0}, {0, 1}, {-1, -1}, {-2, -2}, {-3, -3}, {-4, -4}};
        int[][] turned = {{0, 1}, {1, 0}, {0, 0}, {0, 0}, {0, 0}, {0, 0}};
        BestReplies x = Games.of(pennies, turned);
        Check.due("six by two: entries", x.list(), 1);
        checkStrategies("six by two", x, 0, new String[] {"1/2", "1/2", "0/1", "0/1", "0/1", "0/1", "1/2", "1/2"});
        BestReplies y = new BestReplies();
        y.game(2, 6);
        for (int i = 0; i < 2; i++) {
            for (int j = 0; j < 6; j++) {
                y.pay(0, i, j, turned[j][i], 1);
                y.pay(1, i, j, pennies[j][i], 1);
            }
        }
        Check.due("two by six: entries", y.list(), 1);
        checkStrategies("two by six", y, 0, new String[] {"1/2", "1/2", "1/2", "1/2", "0/1", "0/1", "0/1", "0/1"});
    }

    // ---- SOURCES, promises 8 to 12

    /** Each reason for which there is no such source, for each call that takes one. */
    private static void sourcesThatThereAreNot() {
        BestReplies x = new BestReplies();
        refuse("no game", x, -3, -2, -1, 0, 1, 100, MIN, MAX);
        x.game(2, 2);
        refuse("a game alone", x, -3, -2, -1, 0, 1, 100, MIN, MAX);
        x.weight(0, 0, 1, 1);
        refuse("weights of the second player are 0", x, -2);
        x.weight(1, 0, 1, 2);
        x.weight(1, 1, 1, 3);
        refuse("weights of the second player are below 1", x, -2);
        x.weight(1, 1, 501, 999);
        refuse("weights of the second player are above 1", x, -2);
        x.weight(1, 1, 1, 2);
        Check.due("weights of both are 1", x.support(-2, 1), 3);
        x.weight(0, 1, 1, 999);
        refuse("weights of the first player are above 1", x, -2);
        x.weight(0, 0, 997, 999);
        refuse("weights of the first player are below 1", x, -2);
        x.run(0);
        Check.due("a run", x.judge(-1), true);
        refuse("a run is neither told nor an entry", x, -3, -2, 0);
        x.game(2, 2);
        refuse("no run since the game was made", x, -1);
        x.list();
        Check.due("four entries", x.judge(3), true);
        refuse("not so many entries", x, 4, 5, 99, 100, MAX);
        refuse("a list is neither told nor a run", x, -3, -2, -1, MIN);
        x.run(0);
        x.pay(0, 0, 0, 0, 1);
        refuse("no run and no list since a payoff was told", x, -1, 0, 3);
        x.list();
        x.game(2, 2);
        refuse("no list since the game was made", x, 0, 3);
    }

    private static void refuse(String why, BestReplies x, int... sources) {
        for (int each : sources) {
            Check.state(why + ": support " + each, () -> x.support(each, 0));
            Check.state(why + ": support " + each + ", player", () -> x.support(each, 2));
            Check.state(why + ": strategy " + each, () -> x.strategy(each, 0, 0));
            Check.state(why + ": strategy " + each + ", row", () -> x.strategy(each, 0, -1));
            Check.state(why + ": gets " + each, () -> x.gets(each, 1, -1));
            Check.state(why + ": gets " + each + ", row", () -> x.gets(each, 1, -2));
            Check.state(why + ": replies " + each, () -> x.replies(each, 1));
            Check.state(why + ": replies " + each + ", player", () -> x.replies(each, -1));
            Check.state(why + ": judge " + each, () -> x.judge(each));
        }
    }

    /** 'Row -1: what his own strategy gets'; what is below is none. */
    private static void whatHisOwnStrategyGets() {
        BestReplies x = Games.two();
        x.run(1);
        x.list();
        x.weight(0, 0, 1, 2);
        x.weight(0, 1, 1, 2);
        x.weight(1, 0, 1, 3);
        x.weight(1, 1, 2, 3);
        String[][] due = {{"5/6", "2/3"}, {"1/1", "3/2"}, {"3/1", "1/1"}, {"1/1", "3/2"}, {"3/4", "3/5"}};
        for (int source = -2; source < 3; source++) {
            int s = source;
            for (int player = 0; player < 2; player++) {
                int p = player;
                Check.due("own of " + s, x.gets(s, p, -1), 1);
                Check.due("own of " + s, Games.hand(x), due[s + 2][p]);
                int[] none = {-2, 2, MIN, MAX};
                for (int row : none) {
                    Check.argument("own of " + s + ": row " + row, () -> x.gets(s, p, row));
                }
                Check.argument("a weight of row -1", () -> x.strategy(s, p, -1));
                Check.due("after no row the number at hand", Games.hand(x), due[s + 2][p]);
            }
            int[] nobody = {-1, 2, MIN, MAX};
            for (int player : nobody) {
                Check.argument("own of player " + player, () -> x.gets(s, player, -1));
            }
        }
    }

    /** 'A row that gets as much as any': one, several or all of them, the least and the last among them. */
    private static void bestRepliesGetAsMuchAsAny() {
        BestReplies x = new BestReplies();
        x.game(6, 1);
        Games.tellPure(x, 0, 0);
        Check.due("all rows", x.replies(-2, 0), 63);
        Check.due("the only column", x.replies(-2, 1), 1);
        int[][] payoffs = {{5, 4, 3, 2, 1, 0}, {0, 1, 2, 3, 4, 5}, {1, 3, 2, 3, 3, 0}, {-9, -7, -8, -7, -9, -7}};
        int[] due = {1, 32, 26, 42};
        String[] more = {"0/1", "5/1", "2/1", "2/1"};
        for (int game = 0; game < payoffs.length; game++) {
            for (int row = 0; row < 6; row++) {
                x.pay(0, row, 0, payoffs[game][row], 1);
            }
            Check.due("best rows of " + game, x.replies(-2, 0), due[game]);
            Check.due("how much more they get", Games.hand(x), more[game]);
            Check.due("an equilibrium", x.judge(-2), game == 0);
        }
        x.weight(0, 0, 0, 1);
        x.weight(0, 1, 1, 2);
        x.weight(0, 5, 1, 2);
        Check.due("of those that get as much", x.judge(-2), true);
        x.weight(0, 5, 998, 998);
        x.weight(0, 1, 0, 1);
        x.pay(0, 5, 0, -85, 12);
        Check.due("a little less", x.judge(-2), false);
        Check.due("a little less", x.replies(-2, 0), 10);
        Check.due("a little less", Games.hand(x), "1/12");
    }

    // ---- promises 14 and 15

    private static void roundsInWhichNothingGoes() {
        for (int m : ENDS) {
            for (int n : ENDS) {
                BestReplies x = new BestReplies();
                x.game(m, n);
                for (int round = 0; round < 3; round++) {
                    Check.due("nothing goes", x.round(), 0);
                    Check.due("all are there", x.isThere(0, m - 1) && x.isThere(1, n - 1), true);
                }
            }
        }
        // As much against one column is not more, though it is more against the other one.
        BestReplies y = Games.of(new int[][] {{1, 5}, {1, 4}}, new int[][] {{1, 1}, {5, 4}});
        Check.due("as much is not more", y.round(), 0);
        y.pay(0, 1, 0, 11, 12);
        Check.due("less is", y.round(), 1);
        Check.due("the row went", y.isThere(0, 1), false);
        Check.due("no more goes", y.round(), 0);
        int[] none = {-1, 2, MIN, MAX};
        for (int each : none) {
            Check.argument("no player", () -> y.isThere(each, 0));
            Check.argument("no row", () -> y.isThere(0, each));
            Check.argument("no column", () -> y.isThere(1, each));
        }
    }

    /** All but the best row go at once, those too that only rows dominate that go with them; columns likewise. */
    private static void roundTakesAllThatAreDominatedAtItsBeginning() {
        BestReplies x = new BestReplies();
        x.game(6, 6);
        for (int i = 0; i < 6; i++) {
            for (int j = 0; j < 6; j++) {
                x.pay(0, i, j, i, 1);
                x.pay(1, i, j, -j, 12);
            }
        }
        Check.due("five rows and five columns", x.round(), 10);
        for (int i = 0; i < 6; i++) {
            Check.due("row " + i, x.isThere(0, i), i == 5);
            Check.due("column " + i, x.isThere(1, i), i == 0);
        }
        Check.due("the last ones stay", x.round(), 0);
    }

    /** Row 5 is dominated; column 5 is when row 5 has gone, then row 4, and so on, by the next ones alone. */
    private static void roundsOneAfterAnother() {
        int[][] a = new int[6][6];
        int[][] b = new int[6][6];
        for (int i = 0; i < 6; i++) {
            for (int j = 0; j < 6; j++) {
                if (i > 0) {
                    a[i][j] = a[i - 1][j] + (j <= i ? -1 : 1);
                }
                if (j > 0) {
                    b[i][j] = b[i][j - 1] + (i <= j - 1 ? -1 : 1);
                }
            }
        }
        BestReplies x = Games.of(a, b);
        for (int round = 0; round < 10; round++) {
            int player = round % 2;
            int row = 5 - round / 2;
            Check.due("it is there before round " + round, x.isThere(player, row), true);
            Check.due("round " + round, x.round(), 1);
            Check.due("it went in round " + round, x.isThere(player, row), false);
        }
        Check.due("then nothing goes", x.round(), 0);
        Check.due("and nothing more", x.round(), 0);
        Check.due("row 0 is there", x.isThere(0, 0), true);
        Check.due("column 0 is there", x.isThere(1, 0), true);
    }

    // ---- promises 16 to 18

    /** Payoffs on the diagonal alone: of all rows each one's weight is as 1 by the payoff. */
    private static void partsOfLongNumbers() {
        int longest = 0;
        boolean isTopBitSet = false;
        int[] d = {9973, 9967, 9949, 9941, 9931, 9929};
        for (int size = 2; size <= 6; size++) {
            BestReplies x = new BestReplies();
            x.game(size, size);
            BigInteger all = BigInteger.ONE;
            for (int i = 0; i < size; i++) {
                x.pay(0, i, i, d[i], 1 + i);
                x.pay(1, i, i, d[i], 1);
                all = all.multiply(BigInteger.valueOf(d[i]));
            }
            BigInteger sum = BigInteger.ZERO;
            for (int i = 0; i < size; i++) {
                sum = sum.add(all.divide(BigInteger.valueOf(d[i])));
            }
            int entry = x.list() - 1;
            Check.due("the last entry's rows", x.support(entry, 0), (1 << size) - 1);
            for (int i = 0; i < size; i++) {
                x.strategy(entry, 0, i);
                checkParts(x, all.divide(BigInteger.valueOf(d[i])), sum);
            }
            x.gets(entry, 1, -1);
            checkParts(x, all, sum);
            longest = Math.max(longest, all.bitLength());
            isTopBitSet |= x.part(false, 0) < 0 || x.part(true, 0) < 0;
        }
        Check.due("more than eight bytes", longest > 64, true);
        Check.due("eight bytes with the top bit set", isTopBitSet, true);
    }

    private static void checkParts(BestReplies x, BigInteger above, BigInteger below) {
        BigInteger common = above.gcd(below);
        for (int k = 0; k < 5; k++) {
            Check.due("numerator, " + k, x.part(false, k), above.divide(common).shiftRight(64 * k).longValue());
            Check.due("denominator, " + k, x.part(true, k), below.divide(common).shiftRight(64 * k).longValue());
        }
    }

    /** '0 beyond', up to the largest k, of a number below 0 too; 'k is below 0'. */
    private static void partsBeyond() {
        BestReplies x = new BestReplies();
        partsBeyondTheFirst(x, 0, 1);
        x.game(1, 1);
        Games.tellPure(x, 0, 0);
        x.pay(0, 0, 0, -9999, 7);
        x.gets(-2, 0, 0);
        partsBeyondTheFirst(x, 9999, 7);
        Check.due("its sign", x.sign(), -1);
    }

    private static void partsBeyondTheFirst(BestReplies x, long above, long below) {
        int[] beyond = {1, 2, 7, 1 << 25, (1 << 26) - 1, 1 << 26, 1 << 27, 1 << 30, MAX - 1, MAX};
        for (int k : beyond) {
            Check.due("beyond, " + k, x.part(false, k), 0);
            Check.due("beyond, " + k, x.part(true, k), 0);
        }
        int[] wrong = {-1, -2, -(1 << 26), MIN + 1, MIN};
        for (int k : wrong) {
            Check.bounds("k " + k, () -> x.part(false, k));
            Check.bounds("k " + k, () -> x.part(true, k));
        }
        Check.due("the first", x.part(false, 0), above);
        Check.due("the first", x.part(true, 0), below);
    }

    /** '0 without', '-1 without', '0 without a game'. */
    private static void toldWithout() {
        BestReplies x = new BestReplies();
        checkTold("no game", x, 0, 0, 0, 0, -1, 0, 0);
        x.game(6, 1);
        checkTold("a game", x, 6, 1, 0, 0, -1, 1, 1);
        x.run(0);
        checkTold("a run from label 0", x, 6, 1, x.run(0), 0, 0, 1, 1);
        x.list();
        checkTold("a list and a run", x, 6, 1, x.run(0), 6, 0, 1, 1);
        x.pay(0, 0, 0, 1, 2);
        checkTold("a payoff", x, 6, 1, 0, 0, -1, 2, 1);
        x.list();
        checkTold("a list without a run", x, 6, 1, 0, 1, -1, 2, 1);
        x.pay(1, 5, 0, 1, 3);
        checkTold("another one's payoff", x, 6, 1, 0, 0, -1, 2, 3);
        x.game(1, 6);
        checkTold("another game", x, 1, 6, 0, 0, -1, 1, 1);
        BestReplies none = Situation.EMPTY_LIST.make();
        checkTold("a list of none", none, 2, 3, 0, 0, -1, 1, 1);
    }

    private static void checkTold(String story, BestReplies x, int... due) {
        for (int what = 0; what < due.length; what++) {
            Check.due(story + ": told " + what, x.told(what), due[what]);
        }
        int[] others = {-1, 7, MIN, MAX};
        for (int what : others) {
            Check.argument(story + ": another what", () -> x.told(what));
        }
    }

    /** 'The least common multiple of A's denominators (in least terms)', of each player's own ones. */
    private static void multiplesOfDenominatorsInLeastTerms() {
        int[][] told = {{12, 12}, {0, 12}, {9, 12}, {-5, 6}, {7, 8}, {1, 5}, {3, 9}, {22, 11}, {2, 9}, {1, 7}, {1, 11}};
        int[] due = {1, 1, 4, 12, 24, 120, 120, 120, 360, 2520, 27720};
        for (int player = 0; player < 2; player++) {
            BestReplies x = new BestReplies();
            x.game(2, 6);
            for (int i = 0; i < told.length; i++) {
                x.pay(player, i / 6, i % 6, told[i][0], told[i][1]);
                Check.due("multiple after " + i, x.told(5 + player), due[i]);
                Check.due("the other one's", x.told(6 - player), 1);
            }
            x.pay(player, 0, 4, 8, 8);
            Check.due("a denominator goes", x.told(5 + player), 27720 / 2);
            x.pay(player, 1, 4, 0, 1);
            x.pay(player, 1, 3, 0, 1);
            Check.due("two more go", x.told(5 + player), 180);
        }
    }
}
