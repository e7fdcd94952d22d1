/** Promise 20: evolve. */
public final class EvolveTest {
    private static final int V = Bidwhistle.VALUE, PLUS = Bidwhistle.PLUS, MINUS = Bidwhistle.MINUS,
            TIMES = Bidwhistle.TIMES, OVER = Bidwhistle.OVER, LESSER = Bidwhistle.LESSER, GREATER = Bidwhistle.GREATER;
    private static final int FIRST = Bidwhistle.FIRST, SECOND = Bidwhistle.SECOND, ALL = Bidwhistle.ALL;
    private static final int NONE = Bidwhistle.NONE;

    private static final Checks CHECKS = new Checks();

    public static void main(String[] args) {
        wrong();
        newChild();
        draftStays();
        halves();
        childThatIsNotRight();
        childInPool();
        childThatIsStored();
        childThatHasJustLeft();
        childThatIsAChildAgain();
        parentsByWorth();
        worthsOfBefore();
        oneThatHasLeft();
        toTwenty();
        poolOfEight();
        CHECKS.end();
    }

    private static void wrong() {
        Bidwhistle game = Checks.withNumbers(3);
        game.join(0);
        game.join(1);
        CHECKS.throwing("evolve with 2 in the pool", IllegalStateException.class, () -> game.evolve(FIRST));
        CHECKS.throwing("evolve(4) with 2 in it", IllegalArgumentException.class, () -> game.evolve(4));
        CHECKS.isTrue("isIn(1) behind it", game.isIn(1));
        game.join(2);
        for (int wrong : new int[] {-1, 4, Integer.MIN_VALUE, Integer.MAX_VALUE}) {
            CHECKS.throwing("evolve(" + wrong + ")", IllegalArgumentException.class, () -> game.evolve(wrong));
        }
        CHECKS.isTrue("isIn(2) behind them", game.isIn(2));
        Bidwhistle full = Checks.full();
        for (int i = 0; i < 8; i++) {
            full.join(i);
        }
        CHECKS.throwing("evolve with 20 stored", IllegalStateException.class, () -> full.evolve(FIRST));
        CHECKS.throwing("evolve(-1) with 20 stored", IllegalArgumentException.class, () -> full.evolve(-1));
        for (int i = 0; i < 8; i++) {
            CHECKS.isTrue("isIn behind it", full.isIn(i));
        }
    }

    private static int[] of(int... steps) {
        return steps;
    }

    /** All of these are in the pool, and no pair is told: the last one leaves, the first two are the parents. */
    private static Bidwhistle poolOf(int[]... programs) {
        Bidwhistle game = new Bidwhistle();
        for (int[] program : programs) {
            game.join(Checks.store(game, program));
        }
        return game;
    }

    private static void newChild() {
        Bidwhistle game = poolOf(of(V, 2, PLUS), of(V, 3, TIMES), of(9), of(8));
        CHECKS.equal("evolve(ALL)", game.evolve(ALL), 4);
        CHECKS.equal("stored()", game.stored(), 5);
        CHECKS.isTrue("isIn(2)", game.isIn(2));
        CHECKS.isFalse("isIn(3), of several the greatest number", game.isIn(3));
        CHECKS.isTrue("isIn(4)", game.isIn(4));
        CHECKS.equal("parent(4, true)", game.parent(4, true), 0);
        CHECKS.equal("parent(4, false)", game.parent(4, false), 1);
        CHECKS.equal("parent(0, true)", game.parent(0, true), NONE);
        CHECKS.equal("bid(4, 30) of V 2 *", game.bid(4, 30), 60);
        CHECKS.equal("store() of V 2 *", Checks.store(game, V, 2, TIMES), 4);
        CHECKS.equal("parent(4, true) behind store()", game.parent(4, true), 0);
        CHECKS.equal("leave(4)", game.leave(4), 3);
    }

    private static void draftStays() {
        Bidwhistle game = poolOf(of(V, 2, PLUS), of(V, 3, TIMES), of(9));
        Checks.draft(game, 7, 5);
        game.evolve(FIRST);
        CHECKS.equal("step(MINUS) behind evolve", game.step(MINUS), 3);
        CHECKS.equal("bid of the draft behind evolve", game.bid(game.store(), 0), 2);
    }

    private static void childIs(int[] first, int[] second, int[] child) {
        String what = first.length + " and " + second.length + " steps";
        Bidwhistle game = poolOf(first, second, of(9, 9, TIMES));
        CHECKS.equal("the child of " + what, game.evolve(FIRST), 3);
        CHECKS.isTrue("isIn(3), the child of " + what, game.isIn(3));
        CHECKS.equal("store() of the child of " + what, Checks.store(game, child), 3);
        CHECKS.equal("stored() behind it", game.stored(), 4);
    }

    /** A right program has an odd number of steps, so that these are all lengths whose child can be right. */
    private static void halves() {
        childIs(of(5), of(V, 1, PLUS, 2, MINUS), of(5, 2, MINUS));
        childIs(of(V, 2, PLUS), of(V, 3, TIMES), of(V, 2, TIMES));
        childIs(of(V, 2, OVER), of(V, 1, PLUS, 4, 3, TIMES, PLUS), of(V, 2, 3, TIMES, PLUS));
        childIs(of(V, 2, PLUS, 3, MINUS), of(4), of(V, 2, PLUS));
        childIs(of(V, 2, PLUS, 3, MINUS), of(V, 9, MINUS, 4, OVER), of(V, 2, PLUS, 4, OVER));
        childIs(of(V, 2, PLUS, 3, TIMES, 1, MINUS), of(V, 5, GREATER), of(V, 2, PLUS, 3, GREATER));
        childIs(of(V, 2, PLUS, 3, LESSER, 1, LESSER), of(V, 6, 1, PLUS, TIMES, 5, MINUS),
                of(V, 2, PLUS, 3, TIMES, 5, MINUS));
    }

    private static void noChildOf(int[] first, int[] second) {
        String what = first.length + " and " + second.length + " steps";
        Bidwhistle game = poolOf(first, second, of(9, 9, TIMES));
        CHECKS.equal("no child of " + what, game.evolve(FIRST), NONE);
        CHECKS.equal("stored() without a child of " + what, game.stored(), 3);
        CHECKS.isFalse("isIn(2), which leaves all the same", game.isIn(2));
        CHECKS.isTrue("isIn(0)", game.isIn(0));
        CHECKS.isTrue("isIn(1)", game.isIn(1));
        CHECKS.throwing("evolve with the two that are left", IllegalStateException.class, () -> game.evolve(FIRST));
    }

    private static void childThatIsNotRight() {
        // an even number of steps
        noChildOf(of(5), of(V, 3, TIMES));
        noChildOf(of(V, 3, TIMES), of(5));
        noChildOf(of(V, 3, TIMES), of(V, 1, PLUS, 2, MINUS));
        noChildOf(of(V, 3, TIMES, 2, PLUS), of(V, 1, PLUS));
        noChildOf(of(5), of(V, 1, PLUS, 2, MINUS, 3, TIMES));
        noChildOf(of(V, 1, PLUS, 2, MINUS, 3, TIMES), of(5));
        // too many numbers left: V 1 2 2 -; a step that finds too few: V 1 + + -, and 5 + -
        noChildOf(of(V, 1, 2, PLUS, PLUS), of(V, 1, PLUS, 2, MINUS));
        noChildOf(of(V, 1, PLUS, 2, PLUS), of(V, 1, 2, PLUS, MINUS));
        noChildOf(of(5), of(V, 1, 2, PLUS, MINUS));
    }

    private static void childInPool() {
        noChildOf(of(5), of(6));
        noChildOf(of(V, 2, PLUS), of(V, 3, PLUS));
        Bidwhistle game = poolOf(of(V, 2, PLUS), of(V, 3, TIMES), of(V, 2, TIMES), of(9));
        CHECKS.equal("evolve to one in the pool", game.evolve(FIRST), NONE);
        CHECKS.isTrue("isIn(2), the child", game.isIn(2));
        CHECKS.isFalse("isIn(3)", game.isIn(3));
        CHECKS.equal("stored()", game.stored(), 4);
        CHECKS.equal("parent(2, true)", game.parent(2, true), NONE);
    }

    private static void childThatIsStored() {
        Bidwhistle game = poolOf(of(V, 2, PLUS), of(V, 3, TIMES), of(9));
        Checks.store(game, V, 2, TIMES);
        CHECKS.equal("evolve to a stored one", game.evolve(FIRST), 3);
        CHECKS.equal("stored()", game.stored(), 4);
        CHECKS.isTrue("isIn(3)", game.isIn(3));
        CHECKS.equal("parent(3, true), as it was not stored as a child", game.parent(3, true), NONE);
        CHECKS.equal("parent(3, false), as it was not stored as a child", game.parent(3, false), NONE);
        CHECKS.equal("forbid(PLUS), which is not in its line then", game.forbid(PLUS), 1);
        CHECKS.isTrue("isIn(3) behind forbid", game.isIn(3));
    }

    private static void childThatHasJustLeft() {
        Bidwhistle game = poolOf(of(V, 2, PLUS), of(V, 3, TIMES), of(V, 2, TIMES));
        CHECKS.equal("evolve to the one that leaves", game.evolve(FIRST), 2);
        CHECKS.isTrue("isIn(2), which is back", game.isIn(2));
        CHECKS.equal("stored()", game.stored(), 3);
        CHECKS.equal("leave(2)", game.leave(2), 2);
    }

    private static void childThatIsAChildAgain() {
        Bidwhistle game = poolOf(of(V, 2, PLUS), of(V, 3, TIMES));
        Checks.store(game, V, 2, MINUS);
        Checks.store(game, V, 4, TIMES);
        game.join(Checks.store(game, 9));
        CHECKS.equal("the child of 0 and 1", game.evolve(FIRST), 5);
        game.leave(0);
        game.leave(1);
        game.leave(5);
        game.join(2);
        game.join(3);
        game.join(4);
        CHECKS.equal("the same child, of 2 and 3", game.evolve(FIRST), 5);
        CHECKS.isTrue("isIn(5)", game.isIn(5));
        CHECKS.equal("stored()", game.stored(), 6);
        CHECKS.equal("parent(5, true), as it was stored", game.parent(5, true), 0);
        CHECKS.equal("parent(5, false), as it was stored", game.parent(5, false), 1);
    }

    private static void parentsAre(int auction, int leaving, int first, int second, int... child) {
        // for the value 20 these bid 10, 20, 15 and 180
        Bidwhistle game = poolOf(of(V, 2, OVER), of(V, 0, PLUS), of(V, 5, MINUS), of(V, 9, TIMES));
        game.tell(20, 20);
        String what = ", auction " + auction;
        CHECKS.equal("evolve" + what, game.evolve(auction), 4);
        for (int i = 0; i < 4; i++) {
            CHECKS.equal("isIn(" + i + ")" + what, game.isIn(i) ? 1 : 0, i == leaving ? 0 : 1);
        }
        CHECKS.equal("parent(4, true)" + what, game.parent(4, true), first);
        CHECKS.equal("parent(4, false)" + what, game.parent(4, false), second);
        CHECKS.equal("store() of the child" + what, Checks.store(game, child), 4);
    }

    private static void parentsByWorth() {
        // worths 0, 0, 10, -960; 0, 30, 20, 30; 0, 16, 16, -464; -60, -40, -50, -960
        parentsAre(FIRST, 3, 2, 0, V, 5, OVER);
        parentsAre(SECOND, 0, 1, 3, V, 0, TIMES);
        parentsAre(Bidwhistle.MIDDLE, 3, 1, 2, V, 0, MINUS);
        parentsAre(ALL, 3, 1, 2, V, 0, MINUS);
    }

    private static void worthsOfBefore() {
        // the worths are 0, 0, 0 and 10, the latter against 2 alone, which leaves: all would be 0 then
        Bidwhistle game = poolOf(of(V, 0, PLUS), of(V, 0, MINUS), of(V, 2, OVER), of(V, 5, MINUS));
        game.tell(20, 20);
        CHECKS.equal("worth(FIRST, 3)", game.worth(FIRST, 3), 10);
        CHECKS.equal("evolve(FIRST)", game.evolve(FIRST), 4);
        CHECKS.isFalse("isIn(2), of several the greatest number", game.isIn(2));
        CHECKS.equal("parent(4, true)", game.parent(4, true), 3);
        CHECKS.equal("parent(4, false)", game.parent(4, false), 0);
        CHECKS.equal("best(FIRST) behind it", game.best(FIRST), 0);
        CHECKS.equal("store() of the child", Checks.store(game, V, 5, PLUS), 4);
    }

    /** 0 had the least worth of all, but has left before: its worth from then must not count. */
    private static void oneThatHasLeft() {
        Bidwhistle game = poolOf(of(V, 9, TIMES), of(V, 0, PLUS), of(V, 5, MINUS), of(V, 2, OVER));
        game.tell(20, 20);
        CHECKS.equal("best(FIRST) with 0 in the pool", game.best(FIRST), 2);
        game.leave(0);
        // the worths are 0, 10 and 0 then: 3 leaves, and of 2 and 1 comes V 5 +
        CHECKS.equal("evolve(FIRST) without 0", game.evolve(FIRST), 4);
        CHECKS.isFalse("isIn(3)", game.isIn(3));
        CHECKS.equal("parent(4, true)", game.parent(4, true), 2);
        CHECKS.equal("parent(4, false)", game.parent(4, false), 1);
        CHECKS.equal("store() of the child", Checks.store(game, V, 5, PLUS), 4);
    }

    private static void toTwenty() {
        Bidwhistle game = poolOf(of(V, 2, PLUS), of(V, 3, TIMES), of(9));
        for (int i = 0; i < 8; i++) {
            Checks.store(game, i);
            Checks.store(game, V, i, GREATER);
        }
        CHECKS.equal("stored() before the last child", game.stored(), 19);
        CHECKS.equal("the child that is the twentieth", game.evolve(FIRST), 19);
        CHECKS.equal("stored()", game.stored(), 20);
        CHECKS.equal("bid(19, 33)", game.bid(19, 33), 66);
        game.leave(19);
        game.join(2);
        CHECKS.throwing("evolve to a stored one with 20 stored", IllegalStateException.class, () -> game.evolve(FIRST));
        CHECKS.isTrue("isIn(2) behind it", game.isIn(2));
        CHECKS.isFalse("isIn(19) behind it", game.isIn(19));
    }

    private static void poolOfEight() {
        Bidwhistle game = poolOf(of(V, 2, PLUS), of(V, 3, TIMES), of(2), of(3), of(4), of(5), of(6), of(7));
        CHECKS.equal("evolve with 8 in the pool", game.evolve(SECOND), 8);
        CHECKS.isFalse("isIn(7)", game.isIn(7));
        CHECKS.throwing("join(7), as 8 are in it again", IllegalStateException.class, () -> game.join(7));
    }
}
