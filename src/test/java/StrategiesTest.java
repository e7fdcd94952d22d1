/** Promises 1 to 8: a new object, step, scrap, store, stored, bid, alike, parent. */
public final class StrategiesTest {
    private static final int V = Bidwhistle.VALUE, PLUS = Bidwhistle.PLUS, MINUS = Bidwhistle.MINUS,
            TIMES = Bidwhistle.TIMES, OVER = Bidwhistle.OVER, LESSER = Bidwhistle.LESSER, GREATER = Bidwhistle.GREATER;
    private static final Class<IllegalArgumentException> ARGUMENT = IllegalArgumentException.class;
    private static final Class<IllegalStateException> STATE = IllegalStateException.class;
    private static final Class<IndexOutOfBoundsException> INDEX = IndexOutOfBoundsException.class;

    private static final Checks CHECKS = new Checks();

    public static void main(String[] args) {
        newObject();
        step();
        scrap();
        store();
        storeWhenNotRight();
        storeWhenFull();
        bid();
        bidWithinBounds();
        bidOfWrong();
        alike();
        parent();
        CHECKS.end();
    }

    private static void newObject() {
        Bidwhistle game = new Bidwhistle();
        CHECKS.equal("stored() of a new object", game.stored(), 0);
        CHECKS.equal("forget() of a new object", game.forget(), 0);
        CHECKS.equal("scrap() of a new object", game.scrap(), 0);
        CHECKS.equal("best(FIRST) of a new object", game.best(Bidwhistle.FIRST), Bidwhistle.NONE);
        for (int step = 0; step <= GREATER; step++) {
            CHECKS.isFalse("allow(" + step + ") of a new object", game.allow(step));
        }
        Bidwhistle other = Checks.withNumbers(2);
        other.join(0);
        CHECKS.equal("stored() beside another object", new Bidwhistle().stored(), 0);
    }

    private static void step() {
        Bidwhistle game = new Bidwhistle();
        for (int wrong : new int[] {-1, 17, Integer.MIN_VALUE, Integer.MAX_VALUE}) {
            CHECKS.throwing("step(" + wrong + ")", ARGUMENT, () -> game.step(wrong));
        }
        CHECKS.equal("step(0), the first", game.step(0), 1);
        CHECKS.equal("step(GREATER), the second", game.step(GREATER), 2);
        for (int i = 3; i <= 7; i++) {
            CHECKS.equal("step " + i, game.step(9), i);
        }
        CHECKS.throwing("step(9), the eighth", STATE, () -> game.step(9));
        CHECKS.throwing("step(17), the eighth", ARGUMENT, () -> game.step(17));
        CHECKS.equal("scrap() behind an eighth step", game.scrap(), 7);
        CHECKS.equal("step(9) behind scrap()", game.step(9), 1);
    }

    private static void scrap() {
        Bidwhistle game = new Bidwhistle();
        Checks.draft(game, 1, 2);
        CHECKS.equal("scrap() of two", game.scrap(), 2);
        CHECKS.equal("scrap() again", game.scrap(), 0);
        CHECKS.equal("store() of what came after scrap()", Checks.store(game, 5), 0);
        CHECKS.equal("bid(0, 0)", game.bid(0, 0), 5);
    }

    private static void store() {
        Bidwhistle game = new Bidwhistle();
        CHECKS.equal("store() of V 2 +", Checks.store(game, V, 2, PLUS), 0);
        CHECKS.equal("scrap() behind store()", game.scrap(), 0);
        CHECKS.equal("store() of 2 V +", Checks.store(game, 2, V, PLUS), 1);
        CHECKS.equal("store() of V", Checks.store(game, V), 2);
        CHECKS.equal("store() of V 2 + again", Checks.store(game, V, 2, PLUS), 0);
        CHECKS.equal("scrap() behind store() of a stored one", game.scrap(), 0);
        CHECKS.equal("stored()", game.stored(), 3);
        CHECKS.equal("store() of 7 steps", Checks.store(game, 1, 2, 3, 4, PLUS, PLUS, PLUS), 3);
        CHECKS.equal("bid(3, 0)", game.bid(3, 0), 10);
        CHECKS.isFalse("isIn(3) behind store()", game.isIn(3));
        CHECKS.equal("store() of V 2 + 3 +", Checks.store(game, V, 2, PLUS, 3, PLUS), 4);
        CHECKS.equal("store() of a beginning of one", Checks.store(game, V, 2, PLUS), 0);
    }

    private static void storeWhenNotRight() {
        int[][] wrongs = {
            {}, {PLUS}, {1, PLUS}, {PLUS, 1, 2}, {1, 2}, {1, 2, 3, PLUS}, {1, 2, PLUS, PLUS}, {V, MINUS, 1},
            {1, PLUS, 2}, {1, OVER, 1, 1, PLUS}, {V, V, V, V, V, V, V}, {1, GREATER, 2, 3},
        };
        for (int[] wrong : wrongs) {
            Bidwhistle game = new Bidwhistle();
            Checks.draft(game, wrong);
            CHECKS.throwing("store() of a wrong program of " + wrong.length, STATE, () -> game.store());
            CHECKS.equal("stored() behind it", game.stored(), 0);
            CHECKS.equal("scrap() behind it", game.scrap(), wrong.length);
        }
        Bidwhistle mended = new Bidwhistle();
        Checks.draft(mended, 1, 2);
        CHECKS.throwing("store() of 1 2", STATE, () -> mended.store());
        CHECKS.equal("store() of 1 2 +", Checks.store(mended, PLUS), 0);
        CHECKS.equal("bid(0, 0) of 1 2 +", mended.bid(0, 0), 3);
    }

    private static void storeWhenFull() {
        Bidwhistle game = Checks.full();
        CHECKS.equal("stored() when full", game.stored(), 20);
        CHECKS.equal("store() of a stored one when full", Checks.store(game, V, 3, MINUS), 13);
        Checks.draft(game, V, 3, PLUS);
        CHECKS.throwing("store() of a new one when full", STATE, () -> game.store());
        CHECKS.equal("stored() behind it", game.stored(), 20);
        CHECKS.equal("scrap() behind it", game.scrap(), 3);
        CHECKS.equal("bid(19, 50) when full", game.bid(19, 50), 41);
    }

    private static int bidOf(int value, int... steps) {
        Bidwhistle game = new Bidwhistle();
        return game.bid(Checks.store(game, steps), value);
    }

    private static void bid() {
        for (int number = 0; number <= 9; number++) {
            CHECKS.equal("the bid of " + number, bidOf(50, number), number);
        }
        CHECKS.equal("the bid of V for 0", bidOf(0, V), 0);
        CHECKS.equal("the bid of V for 99", bidOf(99, V), 99);
        CHECKS.equal("8 2 +", bidOf(0, 8, 2, PLUS), 10);
        CHECKS.equal("8 2 -", bidOf(0, 8, 2, MINUS), 6);
        CHECKS.equal("8 2 *", bidOf(0, 8, 2, TIMES), 16);
        CHECKS.equal("8 2 /", bidOf(0, 8, 2, OVER), 4);
        CHECKS.equal("9 4 /", bidOf(0, 9, 4, OVER), 2);
        CHECKS.equal("8 2 lesser", bidOf(0, 8, 2, LESSER), 2);
        CHECKS.equal("2 8 lesser", bidOf(0, 2, 8, LESSER), 2);
        CHECKS.equal("8 2 greater", bidOf(0, 8, 2, GREATER), 8);
        CHECKS.equal("2 8 greater", bidOf(0, 2, 8, GREATER), 8);
        CHECKS.equal("9 5 2 - -", bidOf(0, 9, 5, 2, MINUS, MINUS), 6);
        CHECKS.equal("9 5 - 2 -", bidOf(0, 9, 5, MINUS, 2, MINUS), 2);
        CHECKS.equal("V 3 * 4 /", bidOf(33, V, 3, TIMES, 4, OVER), 24);
        CHECKS.equal("1 2 3 4 + + +", bidOf(0, 1, 2, 3, 4, PLUS, PLUS, PLUS), 10);
        CHECKS.equal("V 0 / , 7 +: 0 if y is 0", bidOf(50, V, 0, OVER, 7, PLUS), 7);
        // -7 / 2 is -3 when rounded toward 0, so that 9 more are 6 (-4 would make it 5)
        CHECKS.equal("0 7 - 2 / 9 +", bidOf(0, 0, 7, MINUS, 2, OVER, 9, PLUS), 6);
        CHECKS.equal("7 0 2 - / 9 +", bidOf(0, 7, 0, 2, MINUS, OVER, 9, PLUS), 6);
        CHECKS.equal("0 7 - 3 lesser 9 +", bidOf(0, 0, 7, MINUS, 3, LESSER, 9, PLUS), 2);
        CHECKS.equal("0 7 - 3 greater 9 +", bidOf(0, 0, 7, MINUS, 3, GREATER, 9, PLUS), 12);
    }

    /** The bound of 100000 shows in no bid: what 7 steps leave of such a number is above 999 or not above 0. */
    private static void bidWithinBounds() {
        CHECKS.equal("-1 is 0", bidOf(2, V, 3, MINUS), 0);
        CHECKS.equal("0", bidOf(3, V, 3, MINUS), 0);
        CHECKS.equal("1", bidOf(4, V, 3, MINUS), 1);
        CHECKS.equal("975", bidOf(39, V, 5, 5, TIMES, TIMES), 975);
        CHECKS.equal("999", bidOf(37, V, 9, 3, TIMES, TIMES), 999);
        CHECKS.equal("1000 is 999", bidOf(25, V, 5, 8, TIMES, TIMES), 999);
        CHECKS.equal("99 to the fourth is 999", bidOf(99, V, V, TIMES, V, TIMES, V, TIMES), 999);
        CHECKS.equal("99 to the third over 99 is 999", bidOf(99, V, V, TIMES, V, TIMES, V, OVER), 999);
        CHECKS.equal("0 less 99 to the third is 0", bidOf(99, 0, V, V, TIMES, V, TIMES, MINUS), 0);
        CHECKS.equal("10 to the third over 10", bidOf(10, V, V, TIMES, V, TIMES, V, OVER), 100);
    }

    private static void bidOfWrong() {
        Bidwhistle game = Checks.withNumbers(2);
        for (int wrong : new int[] {-1, 2, Integer.MIN_VALUE, Integer.MAX_VALUE}) {
            CHECKS.throwing("bid(" + wrong + ", 0)", INDEX, () -> game.bid(wrong, 0));
            CHECKS.throwing("bid(" + wrong + ", 100)", INDEX, () -> game.bid(wrong, 100));
            CHECKS.throwing("alike(" + wrong + ")", INDEX, () -> game.alike(wrong));
            CHECKS.throwing("parent(" + wrong + ", true)", INDEX, () -> game.parent(wrong, true));
            CHECKS.throwing("parent(" + wrong + ", false)", INDEX, () -> game.parent(wrong, false));
        }
        for (int wrong : new int[] {-1, 100, Integer.MIN_VALUE, Integer.MAX_VALUE}) {
            CHECKS.throwing("bid(1, " + wrong + ")", ARGUMENT, () -> game.bid(1, wrong));
        }
    }

    private static void alike() {
        Bidwhistle game = new Bidwhistle();
        int value = Checks.store(game, V);
        int ninetyNine = Checks.store(game, V, 9, 9, 9, PLUS, TIMES, LESSER);
        int sum = Checks.store(game, 0, V, PLUS);
        int seven = Checks.store(game, 7);
        int less = Checks.store(game, 0, 5, MINUS);
        int none = Checks.store(game, 0);
        int last = Checks.store(game, V, 9, V, TIMES, LESSER);
        CHECKS.equal("alike of V", game.alike(value), 4);
        CHECKS.equal("alike of V and 162, the lesser", game.alike(ninetyNine), 4);
        CHECKS.equal("alike of 0 V +", game.alike(sum), 4);
        CHECKS.equal("alike of V and 9 V *, the lesser", game.alike(last), 4);
        CHECKS.equal("alike of 7", game.alike(seven), 1);
        CHECKS.equal("alike of -5", game.alike(less), 2);
        CHECKS.equal("alike of 0", game.alike(none), 2);
        // other bids than V for the value 99 alone, and for the value 0 alone
        CHECKS.equal("alike of V and 98, the lesser", game.alike(Checks.store(game, V, 7, 7, 2, TIMES, TIMES, LESSER)), 1);
        CHECKS.equal("alike of V and 1, the greater", game.alike(Checks.store(game, V, 1, GREATER)), 1);
        CHECKS.equal("alike of V behind them", game.alike(value), 4);
        CHECKS.equal("alike of 98 and V, the lesser", game.alike(Checks.store(game, 7, 7, 2, TIMES, TIMES, V, LESSER)), 2);
    }

    private static void parent() {
        Bidwhistle game = Checks.withNumbers(2);
        CHECKS.equal("parent(0, true)", game.parent(0, true), Bidwhistle.NONE);
        CHECKS.equal("parent(1, false)", game.parent(1, false), Bidwhistle.NONE);
    }
}
