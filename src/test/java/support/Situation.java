/**
 * States that an object can be in. All but the first have a game of 2 rows and 3 columns, and -7/2 at hand. Its list
 * has 3 entries, but for EMPTY_LIST, and its first round takes column 2 away.
 */
enum Situation {
    NEW, GAME, FIRST_ONES_WEIGHTS, SECOND_ONES_WEIGHTS, TOO_MUCH_WEIGHT, WEIGHTS, RUN, LIST, EMPTY_LIST, ALL, ROUND,
    PAY_AFTER_ALL, GAME_AFTER_ALL;

    static final int[] COUNTS = {2, 3};
    /** Of each run. */
    static final int STEPS = 2;
    private static final int[][] A = {{3, 0, 0}, {0, 1, 0}};
    private static final int[][] B = {{2, 0, -1}, {0, 3, -1}};
    /** Each two columns that make the rows alike leave a third one that gets more, or weights of 0. */
    private static final int[][] A_OF_NONE = {{1, 0, 0}, {0, 0, 1}};
    private static final int[][] B_OF_NONE = {{0, 3, 6}, {6, 4, 0}};

    boolean hasGame() {
        return this != NEW;
    }

    boolean hasWeights() {
        return this == WEIGHTS || this == ALL || this == ROUND || this == PAY_AFTER_ALL;
    }

    boolean hasRun() {
        return this == RUN || this == ALL || this == ROUND;
    }

    int entries() {
        return this == LIST || this == ALL || this == ROUND ? 3 : 0;
    }

    BestReplies make() {
        BestReplies x = new BestReplies();
        if (!hasGame()) {
            return x;
        }
        x.game(1, 1);
        x.pay(0, 0, 0, -7, 2);
        Games.tellPure(x, 0, 0);
        x.gets(-2, 0, 0);
        Games.tell(x, this == EMPTY_LIST ? A_OF_NONE : A, this == EMPTY_LIST ? B_OF_NONE : B);
        boolean isAll = this == ALL || this == ROUND || this == PAY_AFTER_ALL || this == GAME_AFTER_ALL;
        tellWeights(x, isAll);
        if (isAll || this == RUN) {
            x.run(3);
        }
        if (isAll || this == LIST || this == EMPTY_LIST) {
            x.list();
        }
        if (isAll && this != ALL) {
            x.round();
        }
        if (this == PAY_AFTER_ALL) {
            x.pay(1, 1, 2, -3, 2);
        }
        if (this == GAME_AFTER_ALL) {
            x.game(COUNTS[0], COUNTS[1]);
        }
        return x;
    }

    private void tellWeights(BestReplies x, boolean isAll) {
        if (isAll || this == WEIGHTS || this == FIRST_ONES_WEIGHTS || this == TOO_MUCH_WEIGHT) {
            x.weight(0, 0, 1, 3);
            x.weight(0, 1, 2, 3);
        }
        if (isAll || this == WEIGHTS || this == SECOND_ONES_WEIGHTS) {
            x.weight(1, 0, 1, 4);
            x.weight(1, 2, 3, 4);
        }
        if (this == TOO_MUCH_WEIGHT) {
            x.weight(1, 0, 1, 4);
            x.weight(1, 1, 1, 2);
            x.weight(1, 2, 1, 2);
        }
    }
}
