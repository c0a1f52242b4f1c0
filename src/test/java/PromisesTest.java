/** Each promise by itself: ordinary inputs, the edges that the document names, wrong inputs and their order. */
public final class PromisesTest {
    private static final int MIN = Integer.MIN_VALUE;
    private static final int MAX = Integer.MAX_VALUE;

    public static void main(String[] args) {
        newObject();
        game();
        gameReplaces();
        pay();
        payForgets();
        run();
        runBreaksTies();
        step();
        weight();
        weightsTogether();
        list();
        listOrderAndTies();
        support();
        strategy();
        gets();
        replies();
        judge();
        index();
        round();
        isThere();
        part();
        sign();
        told();
        sourcesInOrder();
        throwingChangesNothing();
        Check.finish();
    }

    // ---- promises 1 to 3

    private static void newObject() {
        BestReplies x = new BestReplies();
        int[] due = {0, 0, 0, 0, -1, 0, 0};
        for (int what = 0; what < due.length; what++) {
            Check.due("1: told " + what, x.told(what), due[what]);
        }
        Check.due("1: the number at hand", Games.hand(x), "0/1");
        Check.state("1: pay", () -> Check.nothing(() -> x.pay(5, 9, 9, 0, 0)));
        Check.state("1: run", () -> x.run(-1));
        Check.state("1: step", () -> x.step(-1, 9));
        Check.state("1: weight", () -> Check.nothing(() -> x.weight(7, 7, -1, 0)));
        Check.state("1: list", () -> x.list());
        Check.state("1: index", () -> x.index(0));
        Check.state("1: round", () -> x.round());
        Check.state("1: isThere", () -> x.isThere(5, 5));
        for (int source = -3; source < 2; source++) {
            int s = source;
            Check.state("1: support " + s, () -> x.support(s, 5));
            Check.state("1: strategy " + s, () -> x.strategy(s, 5, 5));
            Check.state("1: gets " + s, () -> x.gets(s, 5, 5));
            Check.state("1: replies " + s, () -> x.replies(s, 5));
            Check.state("1: judge " + s, () -> x.judge(s));
        }
    }

    private static void game() {
        BestReplies x = new BestReplies();
        int[] wrong = {0, 7, -1, MIN, MAX};
        for (int each : wrong) {
            Check.argument("2: rows " + each, () -> Check.nothing(() -> x.game(each, 3)));
            Check.argument("2: columns " + each, () -> Check.nothing(() -> x.game(3, each)));
            Check.due("2: no game after a wrong one", x.told(0), 0);
        }
        for (int m = 1; m <= 6; m++) {
            for (int n = 1; n <= 6; n++) {
                x.game(m, n);
                Check.due("2: rows", x.told(0), m);
                Check.due("2: columns", x.told(1), n);
                Check.due("2: LA of payoffs 0", x.told(5), 1);
                Check.due("2: LB of payoffs 0", x.told(6), 1);
                Check.due("2: with payoffs 0 each row and column is an entry", x.list(), m * n);
            }
        }
    }

    private static void gameReplaces() {
        BestReplies x = Games.two();
        Games.tellPure(x, 0, 0);
        x.run(1);
        x.list();
        x.strategy(2, 0, 0);
        x.game(2, 3);
        Check.due("2: steps are gone", x.told(2), 0);
        Check.due("2: entries are gone", x.told(3), 0);
        Check.due("2: the missing label is gone", x.told(4), -1);
        Check.due("2: LB is new", x.told(6), 1);
        Check.due("2: the number at hand stays", Games.hand(x), "3/5");
        Check.state("2: no run", () -> x.judge(-1));
        Check.state("2: no list", () -> x.judge(0));
        Check.state("2: weights told are 0", () -> x.judge(-2));
        Games.tellPure(x, 1, 2);
        Check.due("2: no weight is left", x.support(-2, 0), 2);
        Check.due("2: payoffs are 0", x.gets(-2, 0, 0), 0);
        x.pay(0, 0, 0, 1, 1);
        x.pay(0, 0, 1, 1, 1);
        x.pay(0, 0, 2, 1, 1);
        x.round();
        Check.due("2: a row went", x.isThere(0, 1), false);
        x.game(2, 2);
        Check.due("2: all are there", x.isThere(0, 1), true);
        x.run(0);
        Check.argument("2: a wrong game", () -> Check.nothing(() -> x.game(2, 0)));
        Check.due("2: a wrong game leaves the run", x.told(4), 0);
        Check.due("2: a wrong game leaves the game", x.told(1), 2);
    }

    private static void pay() {
        BestReplies x = new BestReplies();
        x.game(2, 3);
        int[] wrongPlayers = {-1, 2, MIN, MAX};
        for (int each : wrongPlayers) {
            Check.argument("3: player " + each, () -> Check.nothing(() -> x.pay(each, 0, 0, 1, 1)));
        }
        for (int player = 0; player < 2; player++) {
            int p = player;
            Check.argument("3: row 2", () -> Check.nothing(() -> x.pay(p, 2, 0, 1, 1)));
            Check.argument("3: row -1", () -> Check.nothing(() -> x.pay(p, -1, 0, 1, 1)));
            Check.argument("3: column 3", () -> Check.nothing(() -> x.pay(p, 0, 3, 1, 1)));
            Check.argument("3: column -1", () -> Check.nothing(() -> x.pay(p, 0, -1, 1, 1)));
            int[] wrongAbove = {-10000, 10000, MIN, MAX};
            for (int each : wrongAbove) {
                Check.argument("3: above " + each, () -> Check.nothing(() -> x.pay(p, 0, 0, each, 1)));
            }
            int[] wrongBelow = {0, 13, -1, MIN, MAX};
            for (int each : wrongBelow) {
                Check.argument("3: below " + each, () -> Check.nothing(() -> x.pay(p, 0, 0, 1, each)));
            }
            x.pay(p, 1, 2, -9999, 12);
            x.pay(p, 0, 2, 9999, 1);
        }
        Games.tellPure(x, 1, 2);
        Check.due("3: the first player's sign", x.gets(-2, 0, 1), -1);
        Check.due("3: -9999/12", Games.hand(x), "-3333/4");
        Check.due("3: the second player's", x.gets(-2, 1, 2), -1);
        Check.due("3: -9999/12", Games.hand(x), "-3333/4");
        Check.due("3: another row", x.gets(-2, 0, 0), 1);
        Check.due("3: 9999", Games.hand(x), "9999/1");
        x.pay(0, 1, 2, 0, 7);
        Check.due("3: told anew", x.gets(-2, 0, 1), 0);
        Check.due("3: told anew", Games.hand(x), "0/1");
    }

    private static void payForgets() {
        BestReplies x = Games.two();
        Games.tellPure(x, 0, 0);
        x.run(0);
        x.list();
        x.pay(0, 0, 1, 9, 1);
        x.pay(0, 0, 1, 2, 1);
        Check.due("3: the run is gone", x.told(2), 0);
        Check.due("3: the list is gone", x.told(3), 0);
        Check.due("3: the label is gone", x.told(4), -1);
        Check.state("3: no run", () -> x.step(0, 0));
        Check.state("3: no run", () -> x.support(-1, 0));
        Check.state("3: no list", () -> x.index(0));
        Check.state("3: no list", () -> x.support(0, 0));
        Check.due("3: weights told stay", x.support(-2, 1), 1);
        Check.due("3: row 1 is dominated now", x.round(), 1);
        Check.due("3: it went", x.isThere(0, 1), false);
        x.run(0);
        x.list();
        Check.argument("3: a wrong payoff", () -> Check.nothing(() -> x.pay(0, 0, 0, 1, 13)));
        Check.due("3: it leaves the run", x.told(4), 0);
        Check.due("3: it leaves the list", x.told(3), 1);
        Check.due("3: it leaves what went", x.isThere(0, 1), false);
        x.pay(0, 0, 1, 2, 1);
        Check.due("3: all are there again, though nothing changed", x.isThere(0, 1), true);
        Check.due("3: the run is gone, though nothing changed", x.told(4), -1);
    }

    // ---- promises 4 and 5

    private static void run() {
        BestReplies x = Games.two();
        int[] wrong = {-1, 4, MIN, MAX};
        for (int each : wrong) {
            Check.argument("4: label " + each, () -> x.run(each));
        }
        int[][] due = {{1, 1}, {2, 2}, {1, 1}, {2, 2}};
        for (int label = 0; label < 4; label++) {
            Check.due("4: steps from " + label, x.run(label), 2);
            Check.due("4: rows from " + label, x.support(-1, 0), due[label][0]);
            Check.due("4: columns from " + label, x.support(-1, 1), due[label][1]);
            Check.due("4: told's label", x.told(4), label);
            Check.due("4: an equilibrium", x.judge(-1), true);
        }
        Check.argument("4: no such label", () -> x.run(4));
        Check.due("4: the last run stays", x.told(4), 3);
        BestReplies y = new BestReplies();
        y.game(1, 1);
        Check.due("4: the least game", y.run(1), 2);
        Check.due("4: its last step", y.step(1, 1), 1);
    }

    /** With payoffs 0 all sides are alike: of the variables that were basic at first the last one leaves. */
    private static void runBreaksTies() {
        BestReplies x = new BestReplies();
        x.game(2, 2);
        int[][] due = {{0, 3, 0}, {3, 1, 1}, {1, 0, 0}};
        Check.due("4: steps with ties", x.run(0), due.length);
        for (int k = 0; k < due.length; k++) {
            for (int what = 0; what < 3; what++) {
                Check.due("4: step " + k + ", " + what, x.step(k, what), due[k][what]);
            }
        }
        Check.due("4: rows", x.support(-1, 0), 2);
        Check.due("4: columns", x.support(-1, 1), 2);
        Check.due("4: from the last row", x.run(1), 2);
    }

    private static void step() {
        BestReplies x = Games.two();
        Check.state("5: no run", () -> x.step(-1, 5));
        x.list();
        Check.state("5: a list is no run", () -> x.step(0, 0));
        x.run(2);
        int[][] due = {{2, 0, 1}, {0, 2, 0}};
        for (int k = 0; k < 2; k++) {
            for (int what = 0; what < 3; what++) {
                Check.due("5: step " + k + ", " + what, x.step(k, what), due[k][what]);
            }
        }
        int[] wrong = {-1, 2, MIN, MAX};
        for (int each : wrong) {
            Check.bounds("5: step " + each, () -> x.step(each, 0));
            Check.bounds("5: step " + each + " before a wrong what", () -> x.step(each, 9));
        }
        int[] wrongWhat = {-1, 3, MIN, MAX};
        for (int each : wrongWhat) {
            Check.argument("5: what " + each, () -> x.step(1, each));
        }
    }

    // ---- promise 6

    private static void weight() {
        BestReplies x = new BestReplies();
        x.game(2, 3);
        int[] wrongPlayers = {-1, 2, MIN, MAX};
        for (int each : wrongPlayers) {
            Check.argument("6: player " + each, () -> Check.nothing(() -> x.weight(each, 0, 1, 1)));
        }
        for (int player = 0; player < 2; player++) {
            int p = player;
            int[] wrongRows = {-1, 2 + p, MIN, MAX};
            for (int each : wrongRows) {
                Check.argument("6: row " + each, () -> Check.nothing(() -> x.weight(p, each, 1, 1)));
            }
            int[] wrongNumbers = {-1, 1000, MIN, MAX};
            for (int each : wrongNumbers) {
                Check.argument("6: above " + each, () -> Check.nothing(() -> x.weight(p, 0, each, 1)));
                Check.argument("6: below " + each, () -> Check.nothing(() -> x.weight(p, 0, 1, each)));
            }
            Check.argument("6: below 0", () -> Check.nothing(() -> x.weight(p, 0, 1, 0)));
        }
        x.weight(0, 1, 999, 999);
        x.weight(1, 2, 2, 3);
        x.weight(1, 0, 3, 9);
        Check.due("6: a weight", x.strategy(-2, 1, 0), 1);
        Check.due("6: in least terms", Games.hand(x), "1/3");
        x.weight(1, 0, 0, 999);
        Check.state("6: told anew", () -> x.judge(-2));
        x.weight(1, 1, 1, 3);
        Check.due("6: told anew", x.support(-2, 1), 6);
    }

    private static void weightsTogether() {
        BestReplies x = new BestReplies();
        x.game(6, 6);
        x.weight(1, 0, 1, 1);
        Check.state("6: the first player's are 0", () -> x.support(-2, 1));
        for (int row = 0; row < 6; row++) {
            x.weight(0, row, 999, 1);
        }
        Check.state("6: much above 1", () -> x.support(-2, 1));
        int[] large = {997, 991, 983, 977, 971, 967};
        for (int row = 0; row < 6; row++) {
            x.weight(0, row, 1, large[row]);
        }
        Check.state("6: below 1", () -> x.support(-2, 1));
        int[] near = {2, 3, 7, 43, 999, 999};
        for (int row = 0; row < 6; row++) {
            x.weight(0, row, row < 4 ? 1 : 0, near[row]);
        }
        Check.state("6: 1/1806 below 1", () -> x.support(-2, 0));
        int[] parts = {2, 3, 7, 84, 126, 252};
        for (int row = 0; row < 6; row++) {
            x.weight(0, row, 1, parts[row]);
        }
        Check.due("6: 1/2 + 1/3 + 1/7 + 1/84 + 1/126 + 1/252 is 1", x.support(-2, 0), 63);
        x.weight(1, 0, 0, 1);
        Check.state("6: the second player's are 0", () -> x.support(-2, 0));
    }

    // ---- promise 7

    private static void list() {
        BestReplies x = Games.two();
        Check.due("7: entries", x.list(), 3);
        Check.due("7: again", x.list(), 3);
        int[] supports = {1, 2, 3};
        for (int entry = 0; entry < 3; entry++) {
            Check.due("7: rows of " + entry, x.support(entry, 0), supports[entry]);
            Check.due("7: columns of " + entry, x.support(entry, 1), supports[entry]);
            Check.due("7: an equilibrium", x.judge(entry), true);
        }
        Check.state("7: no fourth entry", () -> x.support(3, 0));
        x.pay(0, 1, 1, -1, 1);
        Check.due("7: after a payoff", x.list(), 1);
        Check.due("7: told", x.told(3), 1);
    }

    private static void listOrderAndTies() {
        BestReplies x = new BestReplies();
        x.game(3, 3);
        Check.due("7: all of size 1", x.list(), 9);
        for (int entry = 0; entry < 9; entry++) {
            Check.due("7: by rows", x.support(entry, 0), 1 << entry / 3);
            Check.due("7: then by columns", x.support(entry, 1), 1 << entry % 3);
        }
        // Both rows get the same against column 0 alone, so that column 1 would have a weight of 0.
        BestReplies y = new BestReplies();
        y.game(2, 2);
        y.pay(0, 0, 1, 1, 1);
        y.pay(1, 0, 0, 1, 1);
        Check.due("7: a weight of 0 is no entry", y.list(), 2);
        Check.due("7: the first one's rows", y.support(0, 0), 1);
        Check.due("7: the second one's rows", y.support(1, 0), 2);
        Check.due("7: its columns", y.support(1, 1), 1);
        // Against 1/2, 1/2 rows 0 and 2 are alike, but any weights make the columns alike.
        BestReplies z = new BestReplies();
        z.game(3, 2);
        z.pay(0, 2, 0, 1, 1);
        z.pay(0, 0, 1, 1, 1);
        Check.due("7: not just one is no entry", z.list(), 2);
        Check.due("7: the least rows first", z.support(0, 0), 1);
        Check.due("7: with their columns", z.support(0, 1), 2);
        Check.due("7: then greater ones", z.support(1, 0), 4);
        // And a row beside that gets as much does not hinder, one that gets more does.
        z.pay(1, 0, 0, 1, 1);
        z.pay(1, 2, 1, 1, 1);
        z.pay(0, 1, 0, 1, 2);
        z.pay(0, 1, 1, 1, 2);
        Check.due("7: as much beside", z.list(), 1);
        Check.due("7: as much beside", z.support(0, 0), 5);
        z.pay(0, 1, 1, 2, 3);
        Check.due("7: more beside", z.list(), 0);
    }

    // ---- promises 8 to 12

    private static void wrongPlayers(String promise, BestReplies x, int source) {
        int[] wrong = {-1, 2, MIN, MAX};
        for (int each : wrong) {
            Check.argument(promise + ": support", () -> x.support(source, each));
            Check.argument(promise + ": strategy", () -> x.strategy(source, each, 0));
            Check.argument(promise + ": gets", () -> x.gets(source, each, 0));
            Check.argument(promise + ": gets own", () -> x.gets(source, each, -1));
            Check.argument(promise + ": replies", () -> x.replies(source, each));
        }
    }

    private static void support() {
        BestReplies x = Games.two();
        x.run(1);
        x.list();
        Games.tellPure(x, 0, 1);
        Check.due("8: told", x.support(-2, 0), 1);
        Check.due("8: told", x.support(-2, 1), 2);
        Check.due("8: run", x.support(-1, 0), 2);
        Check.due("8: entry", x.support(2, 1), 3);
        wrongPlayers("8", x, -2);
        wrongPlayers("8", x, -1);
        wrongPlayers("8", x, 2);
        Check.due("8: the number at hand stays", Games.hand(x), "0/1");
    }

    private static void strategy() {
        BestReplies x = Games.two();
        x.list();
        String[][] due = {{"3/5", "2/5"}, {"1/4", "3/4"}};
        for (int player = 0; player < 2; player++) {
            for (int row = 0; row < 2; row++) {
                Check.due("9: a sign", x.strategy(2, player, row), 1);
                Check.due("9: a weight", Games.hand(x), due[player][row]);
            }
            int p = player;
            int[] wrong = {-1, 2, MIN, MAX};
            for (int each : wrong) {
                Check.argument("9: row " + each, () -> x.strategy(2, p, each));
            }
        }
        Check.due("9: a weight of 0", x.strategy(0, 0, 1), 0);
        Check.due("9: a weight of 0", Games.hand(x), "0/1");
        x.run(0);
        Check.due("9: a run's", x.strategy(-1, 1, 0), 1);
        Check.due("9: a run's", Games.hand(x), "1/1");
    }

    private static void gets() {
        BestReplies x = Games.two();
        x.list();
        Check.due("10: row 0", x.gets(2, 0, 0), 1);
        Check.due("10: row 0", Games.hand(x), "3/4");
        Check.due("10: own", x.gets(2, 1, -1), 1);
        Check.due("10: own", Games.hand(x), "3/5");
        Check.due("10: against a pure one", x.gets(0, 0, 1), 0);
        Check.due("10: against a pure one", Games.hand(x), "0/1");
        x.pay(0, 0, 1, -7, 2);
        x.weight(0, 0, 1, 3);
        x.weight(0, 1, 2, 3);
        x.weight(1, 0, 1, 4);
        x.weight(1, 1, 3, 4);
        Check.due("10: below 0", x.gets(-2, 0, 0), -1);
        Check.due("10: 3/4 - 21/8", Games.hand(x), "-15/8");
        Check.due("10: own", x.gets(-2, 0, -1), -1);
        Check.due("10: -15/24 + 3/4 * 2/3", Games.hand(x), "-1/8");
        Check.due("10: a column", x.gets(-2, 1, 1), 1);
        Check.due("10: 3/2 * 2/3", Games.hand(x), "1/1");
        int[] wrong = {-2, 2, MIN, MAX};
        for (int each : wrong) {
            Check.argument("10: row " + each, () -> x.gets(-2, 0, each));
            Check.argument("10: column " + each, () -> x.gets(-2, 1, each));
        }
        Check.due("10: the number at hand stays", Games.hand(x), "1/1");
    }

    private static void replies() {
        BestReplies x = Games.two();
        x.list();
        Check.due("11: both", x.replies(2, 0), 3);
        Check.due("11: no more", Games.hand(x), "0/1");
        Games.tellPure(x, 0, 1);
        Check.due("11: the best row", x.replies(-2, 0), 2);
        Check.due("11: how much more", Games.hand(x), "1/1");
        Check.due("11: the best column", x.replies(-2, 1), 1);
        Check.due("11: how much more", Games.hand(x), "1/1");
        x.pay(0, 0, 1, -5, 2);
        Check.due("11: all below 0 or not", x.replies(-2, 0), 2);
        Check.due("11: how much more", Games.hand(x), "7/2");
        x.pay(0, 1, 1, -5, 2);
        Check.due("11: alike and below 0", x.replies(-2, 0), 3);
        Check.due("11: no more", Games.hand(x), "0/1");
    }

    private static void judge() {
        BestReplies x = Games.two();
        x.list();
        x.strategy(2, 0, 0);
        Games.tellPure(x, 0, 1);
        Check.due("12: neither", x.judge(-2), false);
        Games.tellPure(x, 1, 1);
        Check.state("12: together 2", () -> x.judge(-2));
        x.weight(0, 0, 0, 1);
        Check.due("12: an equilibrium", x.judge(-2), true);
        x.weight(0, 0, 3, 5);
        x.weight(0, 1, 2, 5);
        x.weight(1, 0, 1, 4);
        x.weight(1, 1, 3, 4);
        Check.due("12: the mixed one", x.judge(-2), true);
        x.weight(1, 0, 1, 3);
        x.weight(1, 1, 2, 3);
        Check.due("12: the rows are no best replies", x.judge(-2), false);
        x.weight(1, 0, 1, 4);
        x.weight(1, 1, 3, 4);
        x.weight(0, 0, 1, 5);
        x.weight(0, 1, 4, 5);
        Check.due("12: the columns are no best replies", x.judge(-2), false);
        Check.due("12: the number at hand stays", Games.hand(x), "3/5");
    }

    // ---- promises 13 to 15

    private static void index() {
        BestReplies x = Games.two();
        Check.state("13: no list", () -> x.index(0));
        x.run(0);
        Check.state("13: a run is no list", () -> x.index(0));
        x.list();
        int[] due = {1, 1, -1};
        for (int entry = 0; entry < 3; entry++) {
            Check.due("13: entry " + entry, x.index(entry), due[entry]);
        }
        int[] wrong = {-1, -2, 3, MIN, MAX};
        for (int each : wrong) {
            Check.state("13: entry " + each, () -> x.index(each));
        }
        BestReplies y = new BestReplies();
        y.game(2, 2);
        y.pay(0, 0, 0, 1, 1);
        y.pay(0, 1, 1, 1, 1);
        y.pay(1, 0, 1, 1, 1);
        y.pay(1, 1, 0, 1, 1);
        Check.due("13: matching pennies", y.list(), 1);
        Check.due("13: its only one", y.index(0), 1);
    }

    private static void round() {
        BestReplies x = new BestReplies();
        x.game(2, 3);
        int[][] a = {{5, 5, 5}, {4, 4, 4}};
        int[][] b = {{0, 1, 2}, {0, 1, -1}};
        for (int i = 0; i < 2; i++) {
            for (int j = 0; j < 3; j++) {
                x.pay(0, i, j, a[i][j], 1);
                x.pay(1, i, j, b[i][j], 1);
            }
        }
        x.run(0);
        x.list();
        Check.due("14: row 1 and column 0 at once", x.round(), 2);
        Check.due("14: column 1 is dominated only by then", x.isThere(1, 1), true);
        Check.due("14: column 1", x.round(), 1);
        Check.due("14: none", x.round(), 0);
        int[][] due = {{1, 0}, {0, 0, 1}};
        for (int player = 0; player < 2; player++) {
            for (int row = 0; row < due[player].length; row++) {
                Check.due("14: there", x.isThere(player, row), due[player][row] == 1);
            }
        }
        Check.due("14: the run stays", x.told(4), 0);
        Check.due("14: the list stays", x.told(3), 1);
        x.pay(0, 1, 2, 5, 1);
        Check.due("14: as much is not more", x.round(), 1);
        Check.due("14: the row stays", x.isThere(0, 1), true);
    }

    private static void isThere() {
        BestReplies x = new BestReplies();
        x.game(1, 6);
        int[] wrongPlayers = {-1, 2, MIN, MAX};
        for (int each : wrongPlayers) {
            Check.argument("15: player " + each, () -> x.isThere(each, 0));
        }
        int[] wrongRows = {-1, 6, MIN, MAX};
        for (int each : wrongRows) {
            Check.argument("15: row " + each, () -> x.isThere(0, each));
            Check.argument("15: column " + each, () -> x.isThere(1, each));
        }
        Check.argument("15: the second player's alone", () -> x.isThere(0, 1));
        Check.due("15: column 5", x.isThere(1, 5), true);
        x.pay(1, 0, 5, -1, 1);
        x.round();
        Check.due("15: column 5 went", x.isThere(1, 5), false);
        Check.due("15: column 4", x.isThere(1, 4), true);
    }

    // ---- promises 16 to 18

    private static void part() {
        BestReplies x = Games.two();
        x.list();
        x.strategy(2, 0, 0);
        Check.due("16: the numerator", x.part(false, 0), 3);
        Check.due("16: the denominator", x.part(true, 0), 5);
        Check.due("16: beyond", x.part(false, 1), 0);
        Check.due("16: beyond", x.part(true, MAX), 0);
        Check.bounds("16: k -1", () -> x.part(true, -1));
        Check.bounds("16: k least", () -> x.part(false, MIN));
        Check.due("16: the number at hand stays", Games.hand(x), "3/5");
    }

    private static void sign() {
        BestReplies x = new BestReplies();
        x.game(1, 1);
        Games.tellPure(x, 0, 0);
        int[] above = {-5, 0, 5};
        for (int each : above) {
            x.pay(0, 0, 0, each, 3);
            Check.due("17: gets", x.gets(-2, 0, 0), Integer.signum(each));
            Check.due("17: sign", x.sign(), Integer.signum(each));
            Check.due("17: the numerator has none", x.part(false, 0), Math.abs(each));
            Check.due("17: the denominator", x.part(true, 0), each == 0 ? 1 : 3);
        }
    }

    private static void told() {
        BestReplies x = new BestReplies();
        int[] wrong = {-1, 7, MIN, MAX};
        for (int each : wrong) {
            Check.argument("18: what " + each, () -> x.told(each));
        }
        x.game(3, 4);
        x.pay(0, 0, 0, 9, 12);
        Check.due("18: LA in least terms", x.told(5), 4);
        Check.due("18: LB", x.told(6), 1);
        x.pay(0, 2, 3, 1, 6);
        Check.due("18: LA", x.told(5), 12);
        x.pay(0, 0, 0, 0, 12);
        Check.due("18: LA shrinks", x.told(5), 6);
        int[] below = {11, 9, 8, 7, 5};
        for (int k = 0; k < below.length; k++) {
            x.pay(1, k % 3, k / 3, 1, below[k]);
        }
        Check.due("18: the largest LB", x.told(6), 27720);
        int steps = x.run(6);
        Check.due("18: steps", x.told(2), steps);
        Check.due("18: label", x.told(4), 6);
        Check.due("18: entries before a list", x.told(3), 0);
        Check.due("18: entries", x.list(), x.told(3));
        for (int each : wrong) {
            Check.argument("18: what " + each, () -> x.told(each));
        }
    }

    // ---- what holds for all

    private static void sourcesInOrder() {
        BestReplies x = Games.two();
        int[] none = {-3, -2, -1, 0, 1, MIN, MAX};
        for (int each : none) {
            Check.state("sources: support " + each, () -> x.support(each, 7));
            Check.state("sources: strategy " + each, () -> x.strategy(each, 7, 7));
            Check.state("sources: gets " + each, () -> x.gets(each, 7, 7));
            Check.state("sources: replies " + each, () -> x.replies(each, 7));
            Check.state("sources: judge " + each, () -> x.judge(each));
        }
        x.run(0);
        Check.state("sources: a run is not told", () -> x.judge(-2));
        Check.state("sources: a run is no entry", () -> x.judge(0));
        x.list();
        Check.due("sources: the run stays", x.judge(-1), true);
        Check.state("sources: below -2", () -> x.judge(-3));
        Check.state("sources: least", () -> x.judge(MIN));
    }

    private static void throwingChangesNothing() {
        BestReplies x = Games.two();
        x.run(3);
        x.list();
        Games.tellPure(x, 0, 0);
        x.strategy(2, 1, 1);
        Check.argument("wrong: strategy", () -> x.strategy(0, 0, 2));
        Check.argument("wrong: gets", () -> x.gets(0, 0, 2));
        Check.argument("wrong: replies", () -> x.replies(0, 2));
        Check.state("wrong: strategy", () -> x.strategy(3, 0, 0));
        Check.state("wrong: gets", () -> x.gets(3, 0, 0));
        Check.state("wrong: replies", () -> x.replies(3, 0));
        Check.argument("wrong: weight", () -> Check.nothing(() -> x.weight(0, 0, 1, 0)));
        Check.argument("wrong: pay", () -> Check.nothing(() -> x.pay(0, 0, 0, 1, 0)));
        Check.argument("wrong: run", () -> x.run(9));
        Check.due("wrong: the number at hand", Games.hand(x), "3/4");
        Check.due("wrong: the run", x.told(4), 3);
        Check.due("wrong: the list", x.told(3), 3);
        Check.due("wrong: weights told", x.judge(-2), true);
        Check.due("wrong: payoffs", x.gets(-2, 0, -1), 1);
        Check.due("wrong: payoffs", Games.hand(x), "3/1");
    }
}
