/** All that an object can tell, as one text, so that two objects can be compared. It leaves the object changed. */
final class View {
    private final BestReplies x;
    private final StringBuilder text = new StringBuilder();

    private View(BestReplies x) {
        this.x = x;
    }

    static String of(BestReplies x) {
        return Games.hand(x) + " at hand, " + butForHand(x);
    }

    static String butForHand(BestReplies x) {
        View view = new View(x);
        for (int what = 0; what < 7; what++) {
            view.add(x.told(what));
        }
        view.addSteps();
        view.addThere();
        for (int source = -2; source <= x.told(3); source++) {
            view.addSource(source);
        }
        if (x.told(0) > 0) {
            view.addWeights();
            view.addPayoffs();
        }
        return view.text.toString();
    }

    private void add(Object each) {
        text.append(each).append(' ');
    }

    private void addNumber(int answer) {
        add(answer);
        add(Games.hand(x));
    }

    private void addSteps() {
        text.append("steps ");
        for (int k = 0; k < x.told(2); k++) {
            for (int what = 0; what < 3; what++) {
                add(x.step(k, what));
            }
        }
    }

    private void addThere() {
        text.append("there ");
        for (int player = 0; player < 2; player++) {
            for (int row = 0; row < x.told(player); row++) {
                add(x.isThere(player, row));
            }
        }
    }

    private void addSource(int source) {
        String verdict = Check.outcome(() -> x.judge(source));
        text.append("source ").append(source).append(": ").append(verdict).append(' ');
        if (verdict.startsWith("throws.")) {
            return;
        }
        if (source >= 0) {
            add(x.index(source));
        }
        for (int player = 0; player < 2; player++) {
            add(x.support(source, player));
            addNumber(x.replies(source, player));
            addNumber(x.gets(source, player, -1));
            for (int row = 0; row < x.told(player); row++) {
                addNumber(x.strategy(source, player, row));
            }
        }
    }

    /** Weights can't be read if they are not together 1: so the last ones are told anew, until they are. */
    private void addWeights() {
        int[][] rest = {{0, 1}, {1, 4}, {2, 3}, {3, 4}, {1, 1}};
        for (int[] first : rest) {
            for (int[] second : rest) {
                x.weight(0, x.told(0) - 1, first[0], first[1]);
                x.weight(1, x.told(1) - 1, second[0], second[1]);
                addSource(-2);
            }
        }
    }

    private void addPayoffs() {
        text.append("payoffs ");
        for (int i = 0; i < x.told(0); i++) {
            for (int j = 0; j < x.told(1); j++) {
                Games.tellOnly(x, i, j);
                addNumber(x.gets(-2, 0, i));
                addNumber(x.gets(-2, 1, j));
            }
        }
    }
}
