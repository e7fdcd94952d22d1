/** Promises 9 to 13: join, leave, isIn, forbid, allow; lines of forbidden steps, and promise 8 for children. */
public final class PoolTest {
    private static final int V = Bidwhistle.VALUE, PLUS = Bidwhistle.PLUS, MINUS = Bidwhistle.MINUS,
            TIMES = Bidwhistle.TIMES, OVER = Bidwhistle.OVER, GREATER = Bidwhistle.GREATER;
    private static final Class<IllegalArgumentException> ARGUMENT = IllegalArgumentException.class;
    private static final Class<IllegalStateException> STATE = IllegalStateException.class;
    private static final Class<IndexOutOfBoundsException> INDEX = IndexOutOfBoundsException.class;

    private static final Checks CHECKS = new Checks();

    public static void main(String[] args) {
        join();
        leave();
        wrongStrategies();
        wrongSteps();
        forbidAndAllow();
        forbidBeforeStoring();
        lines();
        linesWhoseParentIsOut();
        linesThatJoinAgain();
        CHECKS.end();
    }

    private static void join() {
        Bidwhistle game = Checks.withNumbers(10);
        for (int i = 0; i < 8; i++) {
            CHECKS.isFalse("isIn before join", game.isIn(i));
            CHECKS.equal("join(" + i + ")", game.join(i), i + 1);
            CHECKS.isTrue("isIn behind join", game.isIn(i));
        }
        CHECKS.throwing("join of the ninth", STATE, () -> game.join(8));
        CHECKS.isFalse("isIn of the ninth", game.isIn(8));
        CHECKS.throwing("join of one in it", STATE, () -> game.join(7));
        CHECKS.equal("leave(0)", game.leave(0), 7);
        CHECKS.throwing("join of one in it, with 7 in it", STATE, () -> game.join(7));
        CHECKS.equal("join(8) then", game.join(8), 8);
        CHECKS.throwing("join(0) then", STATE, () -> game.join(0));
        CHECKS.equal("stored() stays", game.stored(), 10);
    }

    private static void leave() {
        Bidwhistle game = Checks.withNumbers(3);
        CHECKS.throwing("leave of one that is not in it", STATE, () -> game.leave(0));
        game.join(0);
        game.join(2);
        CHECKS.throwing("leave(1)", STATE, () -> game.leave(1));
        CHECKS.equal("leave(0)", game.leave(0), 1);
        CHECKS.isFalse("isIn(0)", game.isIn(0));
        CHECKS.isTrue("isIn(2)", game.isIn(2));
        CHECKS.throwing("leave(0) again", STATE, () -> game.leave(0));
        CHECKS.equal("leave(2)", game.leave(2), 0);
        CHECKS.equal("join(0) again", game.join(0), 1);
    }

    private static void wrongStrategies() {
        Bidwhistle game = Checks.withNumbers(2);
        for (int wrong : new int[] {-1, 2, 20, Integer.MIN_VALUE, Integer.MAX_VALUE}) {
            CHECKS.throwing("join(" + wrong + ")", INDEX, () -> game.join(wrong));
            CHECKS.throwing("leave(" + wrong + ")", INDEX, () -> game.leave(wrong));
            CHECKS.throwing("isIn(" + wrong + ")", INDEX, () -> game.isIn(wrong));
        }
        Bidwhistle full = Checks.withNumbers(8);
        for (int i = 0; i < 8; i++) {
            full.join(i);
        }
        CHECKS.throwing("join(8) of none, with 8 in it", INDEX, () -> full.join(8));
    }

    private static void wrongSteps() {
        Bidwhistle game = Checks.withNumbers(2);
        game.join(0);
        for (int wrong : new int[] {-1, 17, 32, Integer.MIN_VALUE, Integer.MAX_VALUE}) {
            CHECKS.throwing("forbid(" + wrong + ")", ARGUMENT, () -> game.forbid(wrong));
            CHECKS.throwing("allow(" + wrong + ")", ARGUMENT, () -> game.allow(wrong));
        }
        CHECKS.isTrue("isIn(0) behind them", game.isIn(0));
    }

    private static void forbidAndAllow() {
        Bidwhistle game = new Bidwhistle();
        int plus = Checks.store(game, V, 2, PLUS);
        int both = Checks.store(game, V, 2, PLUS, 3, GREATER);
        int minus = Checks.store(game, V, 2, MINUS);
        int out = Checks.store(game, V, 4, PLUS);
        game.join(plus);
        game.join(both);
        game.join(minus);
        CHECKS.equal("forbid(PLUS)", game.forbid(PLUS), 2);
        CHECKS.isFalse("isIn of V 2 +", game.isIn(plus));
        CHECKS.isFalse("isIn of the one with both", game.isIn(both));
        CHECKS.isTrue("isIn of V 2 -", game.isIn(minus));
        CHECKS.throwing("join of V 4 +", STATE, () -> game.join(out));
        CHECKS.equal("forbid(PLUS) again", game.forbid(PLUS), 0);
        CHECKS.equal("forbid(GREATER)", game.forbid(GREATER), 0);
        CHECKS.isTrue("allow(PLUS)", game.allow(PLUS));
        CHECKS.isFalse("allow(PLUS) again", game.allow(PLUS));
        CHECKS.isFalse("isIn of V 2 + is not brought back", game.isIn(plus));
        CHECKS.equal("join of V 2 +", game.join(plus), 2);
        CHECKS.throwing("join of the one with both", STATE, () -> game.join(both));
        CHECKS.isTrue("allow(GREATER)", game.allow(GREATER));
        CHECKS.equal("join of the one with both", game.join(both), 3);
        CHECKS.equal("forbid(2)", game.forbid(2), 3);
        CHECKS.equal("join of V 4 +", game.join(out), 1);
        CHECKS.equal("forbid(0), which none has", game.forbid(0), 0);
        CHECKS.equal("forbid(VALUE)", game.forbid(V), 1);
    }

    private static void forbidBeforeStoring() {
        Bidwhistle game = new Bidwhistle();
        CHECKS.equal("forbid(9)", game.forbid(9), 0);
        CHECKS.equal("step(9), though it is forbidden", game.step(9), 1);
        CHECKS.equal("store(), though it has it", game.store(), 0);
        CHECKS.throwing("join(0)", STATE, () -> game.join(0));
        CHECKS.isTrue("allow(9)", game.allow(9));
        CHECKS.equal("join(0)", game.join(0), 1);
    }

    /**
     * No pair is told, so that all worths are 0: the greatest number leaves, the two lowest are the parents.
     * 0: V 2 +, 1: V 3 *, 2: 9; their child is 3: V 2 *.
     */
    private static Bidwhistle withChild() {
        Bidwhistle game = new Bidwhistle();
        Checks.store(game, V, 2, PLUS);
        Checks.store(game, V, 3, TIMES);
        Checks.store(game, 9);
        game.join(0);
        game.join(1);
        game.join(2);
        CHECKS.equal("evolve(FIRST)", game.evolve(Bidwhistle.FIRST), 3);
        return game;
    }

    private static void parentsOf(Bidwhistle game, int child, int first, int second) {
        CHECKS.equal("parent(" + child + ", true)", game.parent(child, true), first);
        CHECKS.equal("parent(" + child + ", false)", game.parent(child, false), second);
    }

    private static void lines() {
        Bidwhistle game = withChild();
        parentsOf(game, 3, 0, 1);
        CHECKS.equal("bid(3, 8) of V 2 *", game.bid(3, 8), 16);
        CHECKS.equal("forbid(PLUS): 0, and 3, its child", game.forbid(PLUS), 2);
        CHECKS.isFalse("isIn(0)", game.isIn(0));
        CHECKS.isTrue("isIn(1)", game.isIn(1));
        CHECKS.isFalse("isIn(3)", game.isIn(3));

        Bidwhistle bySecond = withChild();
        CHECKS.equal("forbid(3): 1, and 3, its child", bySecond.forbid(3), 2);
        CHECKS.isTrue("isIn(0)", bySecond.isIn(0));
        CHECKS.isFalse("isIn(1)", bySecond.isIn(1));
        CHECKS.isFalse("isIn(3)", bySecond.isIn(3));

        Bidwhistle none = withChild();
        CHECKS.equal("forbid(9): in the line of none", none.forbid(9), 0);
    }

    /** The step is that of a grandparent, and neither this one nor the parent is in the pool. */
    private static void linesWhoseParentIsOut() {
        Bidwhistle game = withChild();
        Checks.store(game, V, 5, OVER);
        game.leave(0);
        game.leave(1);
        game.join(4);
        game.join(2);
        // 2: 9, 3: V 2 *, 4: V 5 /; 4 leaves, and of 9 and V 2 * comes 9 *, which is not right
        CHECKS.equal("evolve to 9 *", game.evolve(Bidwhistle.FIRST), Bidwhistle.NONE);
        CHECKS.isFalse("isIn(4)", game.isIn(4));
        game.leave(2);
        game.join(4);
        Checks.store(game, 8);
        game.join(5);
        // 3: V 2 *, 4: V 5 /, 5: 8; of the first two comes 6: V 2 /
        CHECKS.equal("evolve to V 2 /", game.evolve(Bidwhistle.FIRST), 6);
        parentsOf(game, 6, 3, 4);
        CHECKS.equal("bid(6, 8) of V 2 /", game.bid(6, 8), 4);
        game.leave(3);
        CHECKS.equal("forbid(PLUS), which is that of a grandparent", game.forbid(PLUS), 1);
        CHECKS.isFalse("isIn(6)", game.isIn(6));
        CHECKS.isTrue("isIn(4)", game.isIn(4));
    }

    private static void linesThatJoinAgain() {
        Bidwhistle game = withChild();
        game.forbid(PLUS);
        CHECKS.equal("join(3), which does not have it itself", game.join(3), 2);
        CHECKS.throwing("join(0), which has it itself", STATE, () -> game.join(0));
        CHECKS.equal("forbid(PLUS) again", game.forbid(PLUS), 1);
        CHECKS.isFalse("isIn(3) behind it", game.isIn(3));
        CHECKS.equal("stored() stays", game.stored(), 4);
    }
}
