/** Promises 14 to 19: tell, forget, profit, worth, worthByValues, best. */
public final class RoundsTest {
    private static final int V = Bidwhistle.VALUE, PLUS = Bidwhistle.PLUS, MINUS = Bidwhistle.MINUS,
            TIMES = Bidwhistle.TIMES, OVER = Bidwhistle.OVER;
    private static final int FIRST = Bidwhistle.FIRST, SECOND = Bidwhistle.SECOND, MIDDLE = Bidwhistle.MIDDLE,
            ALL = Bidwhistle.ALL;
    private static final Class<IllegalArgumentException> ARGUMENT = IllegalArgumentException.class;
    private static final Class<IllegalStateException> STATE = IllegalStateException.class;
    private static final Class<IndexOutOfBoundsException> INDEX = IndexOutOfBoundsException.class;

    private static final Checks CHECKS = new Checks();

    public static void main(String[] args) {
        tellAndForget();
        profit();
        profitOfWrong();
        worth();
        worthAgainstThePool();
        worthOfWrong();
        best();
        CHECKS.end();
    }

    private static void tellAndForget() {
        Bidwhistle game = new Bidwhistle();
        for (int wrong : new int[] {-1, 100, Integer.MIN_VALUE, Integer.MAX_VALUE}) {
            CHECKS.throwing("tell(" + wrong + ", 0)", ARGUMENT, () -> game.tell(wrong, 0));
            CHECKS.throwing("tell(0, " + wrong + ")", ARGUMENT, () -> game.tell(0, wrong));
        }
        CHECKS.equal("forget() behind wrong ones", game.forget(), 0);
        CHECKS.equal("tell(0, 99)", game.tell(0, 99), 1);
        CHECKS.equal("tell(99, 0)", game.tell(99, 0), 2);
        for (int i = 3; i <= 6; i++) {
            CHECKS.equal("tell(5, 5)", game.tell(5, 5), i);
        }
        CHECKS.throwing("tell(5, 5), the seventh", STATE, () -> game.tell(5, 5));
        CHECKS.throwing("tell(100, 5), the seventh", ARGUMENT, () -> game.tell(100, 5));
        CHECKS.throwing("tell(5, -1), the seventh", ARGUMENT, () -> game.tell(5, -1));
        CHECKS.equal("forget()", game.forget(), 6);
        CHECKS.equal("forget() again", game.forget(), 0);
        CHECKS.equal("tell(1, 2) behind forget()", game.tell(1, 2), 1);
    }

    /** 0 bids its value, 1 half of it, 2 its value too. */
    private static Bidwhistle ofThree() {
        Bidwhistle game = new Bidwhistle();
        Checks.store(game, V);
        Checks.store(game, V, 2, OVER);
        Checks.store(game, V, 0, PLUS);
        return game;
    }

    private static void profitsOf(Bidwhistle game, String what, int[] call, int... dues) {
        for (int auction = FIRST; auction <= ALL; auction++) {
            int got = game.profit(auction, call[0], call[1], call[2], call[3]);
            CHECKS.equal("profit, auction " + auction + ": " + what, got, dues[auction]);
        }
    }

    private static void profit() {
        Bidwhistle game = ofThree();
        profitsOf(game, "20 wins over 15", new int[] {0, 1, 20, 30}, 0, 5, 3, 0);
        profitsOf(game, "15 loses to 20", new int[] {1, 0, 30, 20}, 0, 0, 0, -15);
        profitsOf(game, "25 wins over 10", new int[] {1, 0, 50, 10}, 25, 40, 33, 25);
        profitsOf(game, "10 loses to 25", new int[] {0, 1, 10, 50}, 0, 0, 0, -10);
        profitsOf(game, "10 wins over 10 by the lower number", new int[] {1, 2, 20, 10}, 10, 10, 10, 10);
        profitsOf(game, "10 loses to 10 by the lower number", new int[] {2, 1, 10, 20}, 0, 0, 0, -10);
        profitsOf(game, "0 wins over 0", new int[] {0, 2, 0, 0}, 0, 0, 0, 0);
        profitsOf(game, "99 wins over 98", new int[] {2, 0, 99, 98}, 0, 1, 1, 0);
        int nine = Checks.store(game, 9);
        profitsOf(game, "9 wins over 8 with the value 0", new int[] {nine, 0, 0, 8}, -9, -8, -8, -9);
        CHECKS.equal("nothing is told by it", game.forget(), 0);
        CHECKS.equal("nothing joins by it", game.best(FIRST), Bidwhistle.NONE);
    }

    private static void profitOfWrong() {
        Bidwhistle game = ofThree();
        for (int wrong : new int[] {-1, 3, Integer.MIN_VALUE, Integer.MAX_VALUE}) {
            CHECKS.throwing("profit of strategy " + wrong, INDEX, () -> game.profit(0, wrong, 1, 0, 0));
            CHECKS.throwing("profit against " + wrong, INDEX, () -> game.profit(0, 1, wrong, 0, 0));
            CHECKS.throwing("profit of it against itself", INDEX, () -> game.profit(0, wrong, wrong, 0, 0));
            CHECKS.throwing("profit of it in no auction", INDEX, () -> game.profit(4, wrong, 1, 100, -1));
        }
        CHECKS.throwing("profit against itself", ARGUMENT, () -> game.profit(0, 1, 1, 0, 0));
        for (int wrong : new int[] {-1, 4, Integer.MIN_VALUE, Integer.MAX_VALUE}) {
            CHECKS.throwing("profit in auction " + wrong, ARGUMENT, () -> game.profit(wrong, 0, 1, 0, 0));
        }
        for (int wrong : new int[] {-1, 100, Integer.MIN_VALUE, Integer.MAX_VALUE}) {
            CHECKS.throwing("profit with value " + wrong, ARGUMENT, () -> game.profit(0, 0, 1, wrong, 0));
            CHECKS.throwing("profit with others " + wrong, ARGUMENT, () -> game.profit(0, 0, 1, 0, wrong));
        }
    }

    private static void worthsOf(Bidwhistle game, int strategy, int... dues) {
        for (int auction = FIRST; auction <= ALL; auction++) {
            String call = "(" + auction + ", " + strategy + ")";
            CHECKS.equal("worth" + call, game.worth(auction, strategy), dues[auction]);
            CHECKS.equal("worthByValues" + call, game.worthByValues(auction, strategy), dues[auction]);
        }
    }

    /** By hand: 0 bids its value, 1 half of it. */
    private static void worth() {
        Bidwhistle game = ofThree();
        game.join(0);
        worthsOf(game, 0, 0, 0, 0, 0);
        game.tell(20, 30);
        worthsOf(game, 0, 0, 0, 0, 0);
        game.join(1);
        // 0 with 20 over 15, with 30 over 10; 1 with 15 under 20, with 10 under 30
        worthsOf(game, 0, 0, 25, 13, 0);
        worthsOf(game, 1, 0, 0, 0, -25);
        game.tell(60, 10);
        // 0 with 60 over 5, with 10 under 30; 1 with 30 over 10, with 5 under 60
        worthsOf(game, 0, 0, 25 + 55, 13 + 28, -10);
        worthsOf(game, 1, 30, 50, 40, -25 + 30 - 5);
        game.forget();
        worthsOf(game, 1, 0, 0, 0, 0);
        game.tell(10, 10);
        // both times 0 with 10 over 5
        worthsOf(game, 0, 0, 10, 6, 0);
        worthsOf(game, 1, 0, 0, 0, -10);
        game.tell(10, 10);
        worthsOf(game, 0, 0, 20, 12, 0);
    }

    private static void worthAgainstThePool() {
        Bidwhistle game = ofThree();
        game.join(0);
        game.join(1);
        game.join(2);
        game.tell(20, 20);
        // 0 and 2 bid 20, 1 bids 10; of 0 and 2 it is 0 that wins
        worthsOf(game, 0, 0, 20, 10, 0);
        worthsOf(game, 1, 0, 0, 0, -40);
        worthsOf(game, 2, 0, 20, 10, -40);
        game.leave(0);
        worthsOf(game, 2, 0, 20, 10, 0);
        game.leave(2);
        worthsOf(game, 1, 0, 0, 0, 0);
        game.join(0);
        worthsOf(game, 0, 0, 20, 10, 0);
    }

    private static void worthOfWrong() {
        Bidwhistle game = ofThree();
        game.join(0);
        for (int wrong : new int[] {-1, 3, Integer.MIN_VALUE, Integer.MAX_VALUE}) {
            CHECKS.throwing("worth of " + wrong, INDEX, () -> game.worth(0, wrong));
            CHECKS.throwing("worthByValues of " + wrong, INDEX, () -> game.worthByValues(0, wrong));
            CHECKS.throwing("worth of it in no auction", INDEX, () -> game.worth(4, wrong));
            CHECKS.throwing("worthByValues of it in no auction", INDEX, () -> game.worthByValues(-1, wrong));
        }
        for (int wrong : new int[] {-1, 4, Integer.MIN_VALUE, Integer.MAX_VALUE}) {
            CHECKS.throwing("worth in auction " + wrong, ARGUMENT, () -> game.worth(wrong, 0));
            CHECKS.throwing("worthByValues in auction " + wrong, ARGUMENT, () -> game.worthByValues(wrong, 0));
            CHECKS.throwing("worth of one that is out, in it", ARGUMENT, () -> game.worth(wrong, 1));
            CHECKS.throwing("worthByValues of one that is out, in it", ARGUMENT, () -> game.worthByValues(wrong, 1));
            CHECKS.throwing("best in auction " + wrong, ARGUMENT, () -> game.best(wrong));
        }
        CHECKS.throwing("worth of one that is out", STATE, () -> game.worth(0, 1));
        CHECKS.throwing("worthByValues of one that is out", STATE, () -> game.worthByValues(3, 1));
    }

    private static void best() {
        Bidwhistle game = ofThree();
        for (int auction = FIRST; auction <= ALL; auction++) {
            CHECKS.equal("best of an empty pool", game.best(auction), Bidwhistle.NONE);
        }
        Checks.store(game, V, 9, TIMES);
        game.join(2);
        CHECKS.equal("best of one", game.best(FIRST), 2);
        game.join(1);
        CHECKS.equal("best of two without values", game.best(FIRST), 1);
        game.tell(20, 20);
        // 2 bids 20, 1 bids 10
        CHECKS.equal("best(FIRST), of the same ones", game.best(FIRST), 1);
        CHECKS.equal("best(SECOND)", game.best(SECOND), 2);
        CHECKS.equal("best(MIDDLE)", game.best(MIDDLE), 2);
        CHECKS.equal("best(ALL)", game.best(ALL), 2);
        game.join(3);
        // 3 bids 180 and wins: SECOND 0; FIRST and ALL -320; the others: FIRST 0, ALL -40 for 1, -40 for 2
        CHECKS.equal("best(ALL), worths below 0", game.best(ALL), 1);
        CHECKS.equal("worth(ALL, 1)", game.worth(ALL, 1), -40);
        CHECKS.equal("worth(ALL, 2)", game.worth(ALL, 2), -40);
        CHECKS.equal("worth(ALL, 3)", game.worth(ALL, 3), -640);
        game.leave(1);
        game.leave(2);
        CHECKS.equal("best of one again", game.best(FIRST), 3);
        game.leave(3);
        CHECKS.equal("best of none again", game.best(FIRST), Bidwhistle.NONE);
    }
}
