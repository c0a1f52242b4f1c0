/** A BestReplies and a Reference that get the same calls; every answer of the one must be the other one's. */
final class Pair {
    private BestReplies real = new BestReplies();
    private Reference due = new Reference();
    private final String name;
    private final StringBuilder calls = new StringBuilder();

    Pair(String name) {
        this.name = name;
    }

    private String compare(String call, Check.Call got, Check.Call want) {
        calls.append(call).append(' ');
        String answer = Check.outcome(got);
        String wanted = Check.outcome(want);
        String story = answer.equals(wanted) ? call : name + ": " + calls + "the last one";
        Check.due(story, answer, wanted);
        return answer;
    }

    void fresh() {
        calls.append("new ");
        real = new BestReplies();
        due = new Reference();
    }

    void game(int m, int n) {
        compare("game(" + m + "," + n + ")", () -> {
            real.game(m, n);
            return "";
        }, () -> {
            due.game(m, n);
            return "";
        });
    }

    void pay(int player, int row, int column, int above, int below) {
        compare("pay(" + player + "," + row + "," + column + "," + above + "," + below + ")", () -> {
            real.pay(player, row, column, above, below);
            return "";
        }, () -> {
            due.pay(player, row, column, above, below);
            return "";
        });
    }

    void weight(int player, int row, int above, int below) {
        compare("weight(" + player + "," + row + "," + above + "," + below + ")", () -> {
            real.weight(player, row, above, below);
            return "";
        }, () -> {
            due.weight(player, row, above, below);
            return "";
        });
    }

    int run(int label) {
        String answer = compare("run(" + label + ")", () -> real.run(label), () -> due.run(label));
        return answer.startsWith("throws") ? 0 : Integer.parseInt(answer);
    }

    void step(int k, int what) {
        compare("step(" + k + "," + what + ")", () -> real.step(k, what), () -> due.step(k, what));
    }

    int list() {
        String answer = compare("list()", () -> real.list(), () -> due.list());
        return answer.startsWith("throws") ? 0 : Integer.parseInt(answer);
    }

    void support(int source, int player) {
        compare("support(" + source + "," + player + ")",
                () -> real.support(source, player), () -> due.support(source, player));
    }

    void strategy(int source, int player, int row) {
        compare("strategy(" + source + "," + player + "," + row + ")",
                () -> real.strategy(source, player, row), () -> due.strategy(source, player, row));
    }

    void gets(int source, int player, int row) {
        compare("gets(" + source + "," + player + "," + row + ")",
                () -> real.gets(source, player, row), () -> due.gets(source, player, row));
    }

    void replies(int source, int player) {
        compare("replies(" + source + "," + player + ")",
                () -> real.replies(source, player), () -> due.replies(source, player));
    }

    void judge(int source) {
        compare("judge(" + source + ")", () -> real.judge(source), () -> due.judge(source));
    }

    void index(int entry) {
        compare("index(" + entry + ")", () -> real.index(entry), () -> due.index(entry));
    }

    void round() {
        compare("round()", () -> real.round(), () -> due.round());
    }

    void isThere(int player, int row) {
        compare("isThere(" + player + "," + row + ")",
                () -> real.isThere(player, row), () -> due.isThere(player, row));
    }

    void part(boolean below, int k) {
        compare("part(" + below + "," + k + ")", () -> real.part(below, k), () -> due.part(below, k));
    }

    void told(int what) {
        compare("told(" + what + ")", () -> real.told(what), () -> due.told(what));
    }

    void sign() {
        compare("sign()", () -> real.sign(), () -> due.sign());
    }

    /** The whole number at hand. */
    void hand() {
        sign();
        for (int k = 0; k < 8; k++) {
            part(false, k);
            part(true, k);
        }
    }
}
