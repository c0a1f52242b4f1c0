import java.util.ArrayList;
import java.util.List;

/** A call of the face with its arguments, and what the document says it throws in a Situation. */
final class Call {
    static final String STATE = "throws.IllegalStateException";
    static final String ARGUMENT = "throws.IllegalArgumentException";
    static final String BOUNDS = "throws.IndexOutOfBoundsException";
    static final String NOTHING = "";

    private static final int FAR = Integer.MAX_VALUE;
    private static final int FAR_BELOW = Integer.MIN_VALUE;
    private static final int[] PLAYERS = {-1, 0, 1, 2, FAR, FAR_BELOW};
    private static final int[] ROWS = {-2, -1, 0, 1, 2, 3, 6, FAR, FAR_BELOW};
    private static final int[] SIZES = {-1, 0, 1, 6, 7, FAR, FAR_BELOW};
    private static final int[] SOURCES = {-3, -2, -1, 0, 2, 3, 99, 100, FAR, FAR_BELOW};

    final String name;
    final int[] with;

    private Call(String name, int... with) {
        this.name = name;
        this.with = with;
    }

    @Override
    public String toString() {
        return name + java.util.Arrays.toString(with);
    }

    /** Each call of the face, with all arguments of which at most two are not ordinary ones. */
    static List<Call> all() {
        List<Call> made = new ArrayList<>();
        add(made, "game", new int[] {2, 3}, SIZES, SIZES);
        add(made, "pay", new int[] {1, 1, 2, 5, 2}, PLAYERS, ROWS, ROWS,
                new int[] {-10000, -9999, 9999, 10000, FAR, FAR_BELOW}, new int[] {-1, 0, 1, 12, 13, FAR, FAR_BELOW});
        add(made, "run", new int[] {0}, new int[] {-1, 1, 2, 3, 4, 5, FAR, FAR_BELOW});
        add(made, "step", new int[] {0, 0}, new int[] {-1, 1, 2, 256, FAR, FAR_BELOW},
                new int[] {-1, 1, 2, 3, FAR, FAR_BELOW});
        add(made, "weight", new int[] {0, 1, 1, 2}, PLAYERS, ROWS,
                new int[] {-1, 0, 999, 1000, FAR, FAR_BELOW}, new int[] {-1, 0, 1, 999, 1000, FAR, FAR_BELOW});
        add(made, "list", new int[0]);
        add(made, "support", new int[] {-1, 0}, SOURCES, PLAYERS);
        add(made, "strategy", new int[] {-2, 1, 0}, SOURCES, PLAYERS, ROWS);
        add(made, "gets", new int[] {0, 1, 0}, SOURCES, PLAYERS, ROWS);
        add(made, "replies", new int[] {-1, 1}, SOURCES, PLAYERS);
        add(made, "judge", new int[] {-2}, SOURCES);
        add(made, "index", new int[] {0}, SOURCES);
        add(made, "round", new int[0]);
        add(made, "isThere", new int[] {0, 0}, PLAYERS, ROWS);
        add(made, "part", new int[] {0, 0}, new int[] {1}, new int[] {-1, 1, 8, FAR, FAR_BELOW});
        add(made, "sign", new int[0]);
        add(made, "told", new int[] {0}, new int[] {-1, 1, 2, 3, 4, 5, 6, 7, FAR, FAR_BELOW});
        return made;
    }

    private static void add(List<Call> made, String name, int[] ordinary, int[]... others) {
        made.add(new Call(name, ordinary));
        for (int i = 0; i < ordinary.length; i++) {
            for (int one : others[i]) {
                int[] with = ordinary.clone();
                with[i] = one;
                made.add(new Call(name, with));
                for (int j = i + 1; j < ordinary.length; j++) {
                    for (int two : others[j]) {
                        int[] withBoth = with.clone();
                        withBoth[j] = two;
                        made.add(new Call(name, withBoth));
                    }
                }
            }
        }
    }

    Object on(BestReplies x) {
        switch (name) {
            case "game":
                return Check.nothing(() -> x.game(with[0], with[1]));
            case "pay":
                return Check.nothing(() -> x.pay(with[0], with[1], with[2], with[3], with[4]));
            case "run":
                return x.run(with[0]);
            case "step":
                return x.step(with[0], with[1]);
            case "weight":
                return Check.nothing(() -> x.weight(with[0], with[1], with[2], with[3]));
            case "list":
                return x.list();
            case "support":
                return x.support(with[0], with[1]);
            case "strategy":
                return x.strategy(with[0], with[1], with[2]);
            case "gets":
                return x.gets(with[0], with[1], with[2]);
            case "replies":
                return x.replies(with[0], with[1]);
            case "judge":
                return x.judge(with[0]);
            case "index":
                return x.index(with[0]);
            case "round":
                return x.round();
            case "isThere":
                return x.isThere(with[0], with[1]);
            case "part":
                return x.part(with[0] == 1, with[1]);
            case "sign":
                return x.sign();
            default:
                return x.told(with[0]);
        }
    }

    /** What the call throws, by the document's lists, the first one named first. */
    String thrown(Situation s) {
        if (isOutOfState(s)) {
            return STATE;
        }
        if (name.equals("part") && with[1] < 0 || name.equals("step") && !isIn(with[0], 0, Situation.STEPS - 1)) {
            return BOUNDS;
        }
        return areArgumentsRight() ? NOTHING : ARGUMENT;
    }

    private boolean isOutOfState(Situation s) {
        switch (name) {
            case "pay":
            case "run":
            case "weight":
            case "list":
            case "round":
            case "isThere":
                return !s.hasGame();
            case "step":
                return !s.hasRun();
            case "support":
            case "strategy":
            case "gets":
            case "replies":
            case "judge":
                return !hasSource(s);
            case "index":
                return !isIn(with[0], 0, s.entries() - 1);
            default:
                return false;
        }
    }

    private boolean hasSource(Situation s) {
        if (with[0] == -2) {
            return s.hasWeights();
        }
        return with[0] == -1 ? s.hasRun() : isIn(with[0], 0, s.entries() - 1);
    }

    private boolean areArgumentsRight() {
        switch (name) {
            case "game":
                return isIn(with[0], 1, 6) && isIn(with[1], 1, 6);
            case "pay":
                return isIn(with[0], 0, 1) && isRow(0, with[1], 0) && isRow(1, with[2], 0)
                        && isIn(with[3], -9999, 9999) && isIn(with[4], 1, 12);
            case "run":
                return isIn(with[0], 0, Situation.COUNTS[0] + Situation.COUNTS[1] - 1);
            case "step":
                return isIn(with[1], 0, 2);
            case "weight":
                return isRow(with[0], with[1], 0) && isIn(with[2], 0, 999) && isIn(with[3], 1, 999);
            case "support":
            case "replies":
                return isIn(with[1], 0, 1);
            case "strategy":
                return isRow(with[1], with[2], 0);
            case "gets":
                return isRow(with[1], with[2], -1);
            case "isThere":
                return isRow(with[0], with[1], 0);
            case "told":
                return isIn(with[0], 0, 6);
            default:
                return true;
        }
    }

    private static boolean isRow(int player, int row, int least) {
        return isIn(player, 0, 1) && isIn(row, least, Situation.COUNTS[player] - 1);
    }

    private static boolean isIn(int number, int least, int most) {
        return number >= least && number <= most;
    }

    /** Whether all but the number at hand is as before. */
    boolean isQuestion() {
        return !List.of("game", "pay", "run", "weight", "list", "round").contains(name);
    }

    boolean leavesANumber() {
        return List.of("strategy", "gets", "replies").contains(name);
    }
}
