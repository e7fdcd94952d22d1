/** The promises line by line, but for their "Throws", which RefusedTest has: the limits inside which a call answers. */
public final class PromisesTest {
    private static final int V = Bidwhistle.VALUE, PLUS = Bidwhistle.PLUS, MINUS = Bidwhistle.MINUS,
            TIMES = Bidwhistle.TIMES, OVER = Bidwhistle.OVER, LESSER = Bidwhistle.LESSER, GREATER = Bidwhistle.GREATER;
    private static final int FIRST = Bidwhistle.FIRST, SECOND = Bidwhistle.SECOND, MIDDLE = Bidwhistle.MIDDLE,
            ALL = Bidwhistle.ALL, NONE = Bidwhistle.NONE;
    private static final Class<IllegalArgumentException> ARGUMENT = IllegalArgumentException.class;
    private static final Class<IllegalStateException> STATE = IllegalStateException.class;
    private static final Class<IndexOutOfBoundsException> INDEX = IndexOutOfBoundsException.class;
    private static final String STEPS = "- `step`: 0 to GREATER";
    private static final String AUCTIONS = "- `auction`: FIRST to ALL";

    private static final Checks CHECKS = new Checks();
    private static final Sentences SENTENCES = new Sentences(CHECKS);

    public static void main(String[] args) {
        newObject();
        step();
        scrap();
        store();
        stored();
        bid();
        alike();
        parent();
        join();
        leave();
        isIn();
        forbid();
        linesOfForbidden();
        allow();
        tell();
        forget();
        profit();
        worth();
        worthByValues();
        best();
        evolve();
        SENTENCES.endOfPromises(line -> !line.startsWith("Throws "));
    }

    private static int[] of(int... steps) {
        return steps;
    }

    private static void newObject() {
        SENTENCES.promise(1, "Begins without strategies and values.", () -> {
            CHECKS.equal("stored()", Scenes.fresh().stored(), 0);
            CHECKS.equal("forget()", Scenes.fresh().forget(), 0);
            CHECKS.equal("scrap()", Scenes.fresh().scrap(), 0);
            CHECKS.throwing("store()", STATE, () -> Scenes.fresh().store());
            CHECKS.throwing("bid(0, 0)", INDEX, () -> Scenes.fresh().bid(0, 0));
            CHECKS.throwing("alike(0)", INDEX, () -> Scenes.fresh().alike(0));
            CHECKS.throwing("parent(0, true)", INDEX, () -> Scenes.fresh().parent(0, true));
            CHECKS.throwing("join(0)", INDEX, () -> Scenes.fresh().join(0));
            CHECKS.throwing("leave(0)", INDEX, () -> Scenes.fresh().leave(0));
            CHECKS.throwing("isIn(0)", INDEX, () -> Scenes.fresh().isIn(0));
            CHECKS.throwing("profit(FIRST, 0, 1, 0, 0)", INDEX, () -> Scenes.fresh().profit(FIRST, 0, 1, 0, 0));
            CHECKS.throwing("worth(FIRST, 0)", INDEX, () -> Scenes.fresh().worth(FIRST, 0));
            CHECKS.throwing("worthByValues(FIRST, 0)", INDEX, () -> Scenes.fresh().worthByValues(FIRST, 0));
            CHECKS.equal("best(FIRST)", Scenes.fresh().best(FIRST), NONE);
            CHECKS.throwing("evolve(FIRST)", STATE, () -> Scenes.fresh().evolve(FIRST));
            for (int step = 0; step <= GREATER; step++) {
                CHECKS.isFalse("allow(" + step + ")", Scenes.fresh().allow(step));
                CHECKS.equal("forbid(" + step + ")", Scenes.fresh().forbid(step), 0);
            }
            Scenes.full();
            CHECKS.equal("stored() beside a full object", Scenes.fresh().stored(), 0);
        });
    }

    private static void step() {
        SENTENCES.promise(2, "Adds a step to the draft of a program, which is empty at first.", () -> {
            Bidwhistle game = Scenes.fresh();
            CHECKS.equal("step(8), the first", game.step(8), 1);
            CHECKS.equal("step(3)", game.step(3), 2);
            CHECKS.equal("step(MINUS)", game.step(MINUS), 3);
            CHECKS.equal("bid of 8 3 -, in this order", game.bid(game.store(), 0), 5);
            CHECKS.equal("step(8) behind store()", game.step(8), 1);
            CHECKS.equal("step(V), though 8 V is not right", game.step(V), 2);
            CHECKS.equal("step(PLUS) with a full object's strategies", Scenes.nineteen().step(PLUS), 1);
        });
        SENTENCES.promise(2, STEPS, () -> {
            for (int step = 0; step <= GREATER; step++) {
                Bidwhistle game = Scenes.fresh();
                CHECKS.equal("step(" + step + ")", game.step(step), 1);
            }
        });
        SENTENCES.promise(2, "Returns how many steps it has then.", () -> {
            Bidwhistle game = Scenes.fresh();
            for (int i = 1; i <= 7; i++) {
                CHECKS.equal("step(9), number " + i, game.step(9), i);
            }
            CHECKS.throwing("step(9), the eighth", STATE, () -> game.step(9));
            CHECKS.equal("scrap() behind it", game.scrap(), 7);
            CHECKS.equal("step(9) behind scrap()", game.step(9), 1);
        });
    }

    private static void scrap() {
        SENTENCES.promise(3, "Empties the draft.", () -> {
            Bidwhistle game = Scenes.fresh();
            Checks.draft(game, 1, 2, 3, 4, 5, 6, 7);
            game.scrap();
            CHECKS.equal("step(8) behind it", game.step(8), 1);
            CHECKS.equal("store()", game.store(), 0);
            CHECKS.equal("bid of 8 alone", game.bid(0, 0), 8);
            CHECKS.throwing("store() of an empty draft", STATE, () -> game.store());
            // forbidden steps of a draft that is scrapped are not those of the next one
            Checks.draft(game, 9);
            game.scrap();
            Checks.store(game, 7);
            game.forbid(9);
            CHECKS.equal("join of 7", game.join(1), 1);
        });
        SENTENCES.promise(3, "Returns how many steps it had.", () -> {
            Bidwhistle game = Scenes.fresh();
            CHECKS.equal("scrap() of none", game.scrap(), 0);
            for (int steps = 1; steps <= 7; steps++) {
                for (int i = 0; i < steps; i++) {
                    game.step(PLUS);
                }
                CHECKS.equal("scrap() of " + steps, game.scrap(), steps);
                CHECKS.equal("scrap() again", game.scrap(), 0);
            }
            Checks.store(game, 1);
            CHECKS.equal("scrap() behind store()", game.scrap(), 0);
        });
    }

    private static void store() {
        SENTENCES.promise(4, "Stores the draft, and empties it.", () -> {
            Bidwhistle game = Scenes.fresh();
            CHECKS.equal("store() of the shortest", Checks.store(game, 6), 0);
            CHECKS.equal("scrap() behind it", game.scrap(), 0);
            CHECKS.equal("store() of the longest", Checks.store(game, 1, 2, 3, V, PLUS, PLUS, PLUS), 1);
            CHECKS.equal("scrap() behind the longest", game.scrap(), 0);
            CHECKS.equal("bid(0, 9)", game.bid(0, 9), 6);
            CHECKS.equal("bid(1, 9)", game.bid(1, 9), 15);
            CHECKS.isFalse("isIn(1)", game.isIn(1));
            CHECKS.equal("parent(1, true)", game.parent(1, true), NONE);
            // what is drafted later is not that of a strategy that is stored
            Checks.draft(game, V, V, TIMES);
            CHECKS.equal("bid(0, 9) with another draft", game.bid(0, 9), 6);
            CHECKS.equal("store() of a program with a forbidden step", forbidAndStore(), 0);
        });
        SENTENCES.promise(4, "Returns the number of the strategy; that of the one which has the same program,"
                + " if there is one.", () -> {
            Bidwhistle game = Checks.full();
            CHECKS.equal("store() of the first, with 20", Checks.store(game, 0), 0);
            CHECKS.equal("scrap() behind it", game.scrap(), 0);
            CHECKS.equal("store() of the last, with 20", Checks.store(game, V, 9, MINUS), 19);
            CHECKS.equal("stored() behind them", game.stored(), 20);
            Bidwhistle few = Scenes.fresh();
            CHECKS.equal("store() of V 2 +", Checks.store(few, V, 2, PLUS), 0);
            CHECKS.equal("store() of 2 V +", Checks.store(few, 2, V, PLUS), 1);
            CHECKS.equal("store() of V", Checks.store(few, V), 2);
            CHECKS.equal("store() of V 2 -", Checks.store(few, V, 2, MINUS), 3);
            CHECKS.equal("store() of V 2 + 3 +", Checks.store(few, V, 2, PLUS, 3, PLUS), 4);
            CHECKS.equal("store() of V 2 + again", Checks.store(few, V, 2, PLUS), 0);
            CHECKS.equal("store() of V 2 + 3 + again", Checks.store(few, V, 2, PLUS, 3, PLUS), 4);
            Bidwhistle child = Scenes.busy();
            child.scrap();
            CHECKS.equal("store() of a child's program", Checks.store(child, V, 2, TIMES), 4);
            CHECKS.equal("parent(4, true) behind it", child.parent(4, true), 0);
            CHECKS.isTrue("isIn(4) behind it", child.isIn(4));
        });
    }

    private static int forbidAndStore() {
        Bidwhistle game = Scenes.fresh();
        game.forbid(9);
        return Checks.store(game, 9);
    }

    private static void stored() {
        SENTENCES.promise(5, "Returns how many strategies are stored.", () -> {
            CHECKS.equal("of a new object", Scenes.fresh().stored(), 0);
            CHECKS.equal("with one", Checks.withNumbers(1).stored(), 1);
            Bidwhistle game = Scenes.nineteen();
            CHECKS.equal("with 19", game.stored(), 19);
            Checks.store(game, 0);
            CHECKS.equal("with a program that is stored again", game.stored(), 19);
            game.evolve(FIRST);
            CHECKS.equal("with a child, the twentieth", game.stored(), 20);
            game.leave(19);
            game.forbid(V);
            CHECKS.equal("when they have left", game.stored(), 20);
            Checks.draft(game, 1);
            CHECKS.equal("with a draft", game.stored(), 20);
        });
    }

    private static void bid() {
        SENTENCES.promise(6, "Returns the bid of a strategy for a value.", () -> {
            Bidwhistle game = Checks.full();
            for (int i = 0; i < 10; i++) {
                CHECKS.equal("bid(" + i + ", 60)", game.bid(i, 60), i);
                CHECKS.equal("bid(" + (10 + i) + ", 60)", game.bid(10 + i, 60), 60 - i);
            }
            Bidwhistle child = Scenes.busy();
            CHECKS.equal("bid(4, 60) of a child", child.bid(4, 60), 120);
            CHECKS.equal("bid(2, 60) with a forbidden step", child.bid(2, 60), 9);
        });
        SENTENCES.promise(6, "- `value`: 0 to 99", () -> {
            Bidwhistle game = Scenes.fresh();
            Checks.store(game, V);
            Checks.store(game, 9, 9, TIMES, V, MINUS);
            for (int value = 0; value <= 99; value++) {
                CHECKS.equal("bid(0, " + value + ")", game.bid(0, value), value);
                CHECKS.equal("bid(1, " + value + ")", game.bid(1, value), value > 81 ? 0 : 81 - value);
            }
        });
    }

    private static void alike() {
        SENTENCES.promise(7, "Returns how many stored strategies, itself among them, have the same bids as a strategy for all"
                + " values from 0 to 99.", () -> {
            CHECKS.equal("alike(0) of one", Checks.withNumbers(1).alike(0), 1);
            Bidwhistle all = Scenes.fresh();
            for (int i = 0; i < 10; i++) {
                CHECKS.equal("store() of 0 times", Checks.store(all, 0, i, TIMES), 2 * i);
                CHECKS.equal("store() of 0 less", Checks.store(all, 0, i, MINUS), 2 * i + 1);
                CHECKS.equal("alike(0) meanwhile", all.alike(0), 2 * i + 2);
            }
            CHECKS.equal("alike(19), as all 20 are", all.alike(19), 20);
            Bidwhistle edges = Scenes.fresh();
            Checks.store(edges, V);
            Checks.store(edges, V, 1, GREATER);
            Checks.store(edges, V, 7, 7, 2, TIMES, TIMES, LESSER);
            Checks.store(edges, V, 9, 9, 9, PLUS, TIMES, LESSER);
            CHECKS.equal("alike(0)", edges.alike(0), 2);
            CHECKS.equal("alike(1), another for 0 alone", edges.alike(1), 1);
            CHECKS.equal("alike(2), another for 99 alone", edges.alike(2), 1);
            CHECKS.equal("alike(3)", edges.alike(3), 2);
            Checks.store(edges, V, V, TIMES, V, TIMES, V, TIMES);
            Checks.store(edges, V, V, TIMES, V, TIMES, 8, TIMES);
            CHECKS.equal("alike(4), 625 for 5, where 5 has 999", edges.alike(4), 1);
            edges.join(0);
            CHECKS.equal("alike(3), with 0 in the pool", edges.alike(3), 2);
            CHECKS.equal("alike of a child", childAlike(), 2);
        });
    }

    /** A child that bids as one before it does: V 2 * and 2 V *. */
    private static int childAlike() {
        Bidwhistle game = Scenes.poolOf(of(V, 2, PLUS), of(2, V, TIMES), of(9));
        int child = game.evolve(FIRST);
        CHECKS.equal("the child", child, 3);
        return game.alike(child);
    }

    private static void parentsAre(Bidwhistle game, int strategy, int first, int second) {
        CHECKS.equal("parent(" + strategy + ", true)", game.parent(strategy, true), first);
        CHECKS.equal("parent(" + strategy + ", false)", game.parent(strategy, false), second);
    }

    private static void parent() {
        SENTENCES.promise(8, "Returns a parent of a strategy.", () -> {
            parentsAre(Scenes.busy(), 4, 0, 1);
            parentsAre(Scenes.full(), 19, 0, 1);
            Bidwhistle game = Scenes.busy();
            game.leave(0);
            game.leave(4);
            game.forbid(TIMES);
            parentsAre(game, 4, 0, 1);
        });
        SENTENCES.promise(8, "- `isFirst`: whether it is the first one", () -> {
            // 1 is worth the most, so that the first parent has the greater number
            Bidwhistle game = Scenes.poolOf(of(V, 2, OVER), of(V, 5, MINUS), of(V, 9, TIMES));
            game.tell(20, 20);
            game.evolve(FIRST);
            parentsAre(game, 3, 1, 0);
        });
        SENTENCES.promise(8, "Returns the parent; NONE if it was not stored as a child.", () -> {
            Bidwhistle game = Checks.full();
            for (int i = 0; i < 20; i++) {
                parentsAre(game, i, NONE, NONE);
            }
            Bidwhistle stored = Scenes.poolOf(of(V, 2, PLUS), of(V, 3, TIMES), of(9));
            Checks.store(stored, V, 2, TIMES);
            CHECKS.equal("evolve to one that was stored by store()", stored.evolve(FIRST), 3);
            parentsAre(stored, 3, NONE, NONE);
        });
    }

    private static void join() {
        SENTENCES.promise(9, "Lets a strategy join the pool.", () -> {
            Bidwhistle game = Scenes.busy();
            CHECKS.equal("join(5)", game.join(5), 4);
            CHECKS.isTrue("isIn(5)", game.isIn(5));
            CHECKS.isFalse("isIn(3) still", game.isIn(3));
            game.leave(5);
            CHECKS.equal("join(5), which has left", game.join(5), 4);
            CHECKS.equal("stored()", game.stored(), 6);
            game.allow(9);
            CHECKS.equal("join(2), whose step is allowed again", game.join(2), 5);
            Bidwhistle last = Checks.full();
            CHECKS.equal("join(19), the last that can be", last.join(19), 1);
        });
        SENTENCES.promise(9, "Returns how many are in it then.", () -> {
            Bidwhistle game = Checks.full();
            for (int i = 1; i <= 8; i++) {
                CHECKS.equal("join(" + (20 - i) + ")", game.join(20 - i), i);
            }
            CHECKS.throwing("join of the ninth", STATE, () -> game.join(0));
            CHECKS.equal("leave(19)", game.leave(19), 7);
            CHECKS.equal("join(0) behind it", game.join(0), 8);
        });
    }

    private static void leave() {
        SENTENCES.promise(10, "Lets a strategy leave the pool.", () -> {
            Bidwhistle game = Scenes.busy();
            CHECKS.equal("leave(1)", game.leave(1), 2);
            CHECKS.isFalse("isIn(1)", game.isIn(1));
            CHECKS.isTrue("isIn(4), its child", game.isIn(4));
            CHECKS.throwing("leave(1) again", STATE, () -> game.leave(1));
            CHECKS.equal("stored()", game.stored(), 6);
        });
        SENTENCES.promise(10, "Returns how many are in it then.", () -> {
            Bidwhistle game = Checks.full();
            for (int i = 0; i < 8; i++) {
                game.join(i);
            }
            for (int i = 0; i < 8; i++) {
                CHECKS.equal("leave(" + i + ")", game.leave(i), 7 - i);
            }
            CHECKS.equal("best(FIRST) of the empty pool", game.best(FIRST), NONE);
        });
    }

    private static void isIn() {
        SENTENCES.promise(11, "Returns whether a strategy is in the pool.", () -> {
            Bidwhistle game = Scenes.full();
            for (int i = 0; i < 20; i++) {
                boolean isDue = i == 0 || i == 1 || (i >= 3 && i <= 7) || i == 19;
                CHECKS.equal("isIn(" + i + ")", game.isIn(i) ? 1 : 0, isDue ? 1 : 0);
            }
            game.leave(19);
            CHECKS.isFalse("isIn(19) behind leave", game.isIn(19));
            game.join(19);
            CHECKS.isTrue("isIn(19) behind join", game.isIn(19));
            game.forbid(TIMES);
            CHECKS.isFalse("isIn(19) behind forbid", game.isIn(19));
        });
    }

    private static void forbid() {
        SENTENCES.promise(12, STEPS, () -> {
            // each step stands in one program of its own: forbidden, it alone leaves
            for (int step = 0; step <= GREATER; step++) {
                Bidwhistle game = Scenes.fresh();
                int its = step <= V ? Checks.store(game, step) : Checks.store(game, V, V, step);
                int other = Checks.store(game, step == 0 ? 1 : 0);
                game.join(its);
                game.join(other);
                CHECKS.equal("forbid(" + step + ")", game.forbid(step), 1);
                CHECKS.isFalse("isIn of the one with it", game.isIn(its));
                CHECKS.isTrue("isIn of the other one", game.isIn(other));
                game.leave(other);
                CHECKS.equal("join of the other one again", game.join(other), 1);
                CHECKS.throwing("join of the one with it", STATE, () -> game.join(its));
            }
        });
        SENTENCES.promise(12, "Returns how many leave.", () -> {
            CHECKS.equal("forbid(V) of a new object", Scenes.fresh().forbid(V), 0);
            CHECKS.equal("forbid(8), which none has", Scenes.full().forbid(8), 0);
            CHECKS.equal("forbid(4), which none in the pool has", Scenes.full().forbid(4), 0);
            CHECKS.equal("forbid(2) of one in its middle", Scenes.full().forbid(2), 3);
            Bidwhistle all = Checks.full();
            for (int i = 10; i < 18; i++) {
                all.join(i);
            }
            CHECKS.equal("forbid(MINUS), which all 8 have", all.forbid(MINUS), 8);
            CHECKS.equal("best(FIRST) of the empty pool", all.best(FIRST), NONE);
            CHECKS.equal("forbid(MINUS) again", all.forbid(MINUS), 0);
            CHECKS.equal("forbid(V), with the pool empty", all.forbid(V), 0);
            // it has the step twice, and its parents have it too: it leaves once
            Bidwhistle twice = Scenes.poolOf(of(V, V, PLUS), of(V, V, TIMES), of(9));
            CHECKS.equal("the child V V *", twice.evolve(FIRST), NONE);
            CHECKS.equal("forbid(V) of V V + and V V *", twice.forbid(V), 2);
            CHECKS.equal("forbid(V) of a child and its parents", busyWithoutRules().forbid(V), 3);
        });
    }

    private static Bidwhistle busyWithoutRules() {
        Bidwhistle game = Scenes.busy();
        game.allow(9);
        return game;
    }

    /**
     * 0: V 2 +, 1: V 3 *, 2: 9, 3: V 2 *, the child of 0 and 1, 4: V 5 /, 5: 8, 6: V 2 /, the child of 3 and 4;
     * 3, 4 and 6 are in the pool.
     */
    private static Bidwhistle withGrandchild() {
        Bidwhistle game = Scenes.poolOf(of(V, 2, PLUS), of(V, 3, TIMES), of(9));
        CHECKS.equal("the child", game.evolve(FIRST), 3);
        game.leave(0);
        game.leave(1);
        game.join(Checks.store(game, V, 5, OVER));
        game.join(Checks.store(game, 8));
        CHECKS.equal("the grandchild", game.evolve(FIRST), 6);
        return game;
    }

    private static void poolIs(Bidwhistle game, int... due) {
        for (int i = 0; i < game.stored(); i++) {
            boolean isDue = false;
            for (int strategy : due) {
                isDue |= strategy == i;
            }
            CHECKS.equal("isIn(" + i + ")", game.isIn(i) ? 1 : 0, isDue ? 1 : 0);
        }
    }

    private static void linesOfForbidden() {
        SENTENCES.promise(12, "Forbids a step: all strategies with it leave the pool, and all of their lines: those one of"
                + " whose parents has it, or a parent of these, and so on. (Those of the lines that do not have it"
                + " themselves may join again.)", () -> {
            forbidding(3, 2, of(4), "a step of a grandparent, the second one of a first parent");
            forbidding(PLUS, 2, of(4), "a step of a grandparent, the first one of a first parent");
            forbidding(5, 2, of(3), "a step of a second parent");
            forbidding(TIMES, 2, of(4), "a step of the parent and of a grandparent");
            forbidding(OVER, 2, of(3), "a step of the grandchild and its second parent");
            forbidding(2, 2, of(4), "a step of the grandchild and its first parent");
            forbidding(V, 3, of(), "a step of all");
            forbidding(8, 0, of(3, 4, 6), "a step of one that has left");
            Bidwhistle out = withGrandchild();
            out.leave(4);
            CHECKS.equal("forbid(5), a step of a second parent that is out", out.forbid(5), 1);
            poolIs(out, 3);
            Bidwhistle again = withGrandchild();
            again.forbid(PLUS);
            poolIs(again, 4);
            CHECKS.equal("join(3), which does not have it itself", again.join(3), 2);
            CHECKS.equal("join(6), which does not have it itself", again.join(6), 3);
            CHECKS.throwing("join(0), which has it itself", STATE, () -> again.join(0));
            CHECKS.equal("forbid(PLUS) again", again.forbid(PLUS), 2);
            poolIs(again, 4);
            again.allow(PLUS);
            poolIs(again, 4);
            // lines go down alone: what the child has does not drive out its parents
            Bidwhistle down = Scenes.poolOf(of(V, 2, PLUS), of(3, V, TIMES), of(9));
            down.evolve(FIRST);
            CHECKS.equal("forbid(PLUS), of the first parent", down.forbid(PLUS), 2);
            poolIs(down, 1);
            CHECKS.equal("join(3)", down.join(3), 2);
            CHECKS.equal("forbid(2), of the child and the first parent", down.forbid(2), 1);
            poolIs(down, 1);
            greatGrandchild();
        });
    }

    private static void forbidding(int step, int leaving, int[] staying, String what) {
        Bidwhistle game = withGrandchild();
        CHECKS.equal("forbid(" + step + "), " + what, game.forbid(step), leaving);
        poolIs(game, staying);
    }

    /** One line further down: of 6: V 2 / and 7: V 7 lesser comes 9: V 2 lesser, while 8 leaves. */
    private static void greatGrandchild() {
        Bidwhistle game = withGrandchild();
        game.leave(3);
        game.leave(4);
        game.join(Checks.store(game, V, 7, LESSER));
        game.join(Checks.store(game, V, 8, GREATER));
        CHECKS.equal("the great-grandchild", game.evolve(FIRST), 9);
        parentsAre(game, 9, 6, 7);
        CHECKS.equal("forbid(PLUS), three parents up", game.forbid(PLUS), 2);
        poolIs(game, 7);
    }

    private static void allow() {
        SENTENCES.promise(13, "Allows a step again.", () -> {
            Bidwhistle game = Scenes.busy();
            CHECKS.throwing("join(2) before", STATE, () -> game.join(2));
            game.allow(9);
            CHECKS.isFalse("isIn(2), which is not brought back", game.isIn(2));
            CHECKS.equal("join(2)", game.join(2), 4);
            Bidwhistle two = Scenes.busy();
            two.forbid(MINUS);
            two.forbid(5);
            two.allow(MINUS);
            CHECKS.throwing("join(3), whose 5 is forbidden still", STATE, () -> two.join(3));
            two.allow(5);
            CHECKS.equal("join(3) then", two.join(3), 4);
        });
        SENTENCES.promise(13, STEPS, () -> {
            for (int step = 0; step <= GREATER; step++) {
                Bidwhistle game = Scenes.fresh();
                game.forbid(step);
                CHECKS.isTrue("allow(" + step + ")", game.allow(step));
            }
        });
        SENTENCES.promise(13, "Returns true if it was forbidden.", () -> {
            Bidwhistle game = Scenes.fresh();
            for (int step = 0; step <= GREATER; step++) {
                CHECKS.isFalse("allow(" + step + ") of what is not", game.allow(step));
            }
            for (int step = 0; step <= GREATER; step++) {
                game.forbid(step);
                game.forbid(step);
            }
            for (int step = GREATER; step >= 0; step--) {
                CHECKS.isTrue("allow(" + step + ") of what is", game.allow(step));
                CHECKS.isFalse("allow(" + step + ") again", game.allow(step));
            }
        });
    }

    private static void tell() {
        SENTENCES.promise(14, "Tells a pair of values.", () -> {
            Bidwhistle game = Scenes.poolOf(of(V), of(V, 2, OVER));
            game.tell(20, 30);
            CHECKS.equal("worth(SECOND, 0)", game.worth(SECOND, 0), 5 + 20);
            game.tell(60, 10);
            CHECKS.equal("worth(SECOND, 0) with one more", game.worth(SECOND, 0), 25 + 55);
        });
        SENTENCES.promise(14, "- `one`: 0 to 99", () -> {
            Bidwhistle game = Scenes.fresh();
            CHECKS.equal("tell(0, 50)", game.tell(0, 50), 1);
            CHECKS.equal("tell(99, 50)", game.tell(99, 50), 2);
            CHECKS.throwing("tell(100, 50)", ARGUMENT, () -> game.tell(100, 50));
            CHECKS.throwing("tell(-1, 50)", ARGUMENT, () -> game.tell(-1, 50));
        });
        SENTENCES.promise(14, "- `two`: 0 to 99", () -> {
            Bidwhistle game = Scenes.fresh();
            CHECKS.equal("tell(50, 0)", game.tell(50, 0), 1);
            CHECKS.equal("tell(50, 99)", game.tell(50, 99), 2);
            CHECKS.throwing("tell(50, 100)", ARGUMENT, () -> game.tell(50, 100));
            CHECKS.throwing("tell(50, -1)", ARGUMENT, () -> game.tell(50, -1));
        });
        SENTENCES.promise(14, "Returns how many pairs are told then.", () -> {
            Bidwhistle game = Scenes.fresh();
            for (int i = 1; i <= 6; i++) {
                CHECKS.equal("tell(3, 3), the same pair again", game.tell(3, 3), i);
            }
            CHECKS.throwing("tell(3, 3), the seventh", STATE, () -> game.tell(3, 3));
            game.forget();
            CHECKS.equal("tell(3, 3) behind forget()", game.tell(3, 3), 1);
        });
    }

    private static void forget() {
        SENTENCES.promise(15, "Forgets all pairs of values.", () -> {
            Bidwhistle game = Scenes.full();
            game.forget();
            for (int auction = FIRST; auction <= ALL; auction++) {
                CHECKS.equal("worth(" + auction + ", 0)", game.worth(auction, 0), 0);
                CHECKS.equal("worthByValues(" + auction + ", 0)", game.worthByValues(auction, 0), 0);
            }
            Bidwhistle one = Scenes.poolOf(of(V), of(V, 2, OVER));
            one.tell(99, 99);
            one.tell(98, 98);
            one.forget();
            one.tell(20, 30);
            CHECKS.equal("worth(SECOND, 0) by the new pair alone", one.worth(SECOND, 0), 25);
        });
        SENTENCES.promise(15, "Returns how many were told.", () -> {
            Bidwhistle game = Scenes.fresh();
            for (int pairs = 0; pairs <= 6; pairs++) {
                for (int i = 0; i < pairs; i++) {
                    game.tell(i, i);
                }
                CHECKS.equal("forget() of " + pairs, game.forget(), pairs);
                CHECKS.equal("forget() again", game.forget(), 0);
            }
        });
    }

    private static void profit() {
        SENTENCES.promise(16, "Returns the profit of a strategy against another one.", () -> {
            // 0 and 1 bid 20 and 15 here, and none of them is in the pool
            Bidwhistle game = Scenes.fresh();
            Checks.store(game, V);
            Checks.store(game, V, 2, OVER);
            int[] ofWinner = {0, 5, 3, 0};
            int[] ofOther = {0, 0, 0, -15};
            for (int auction = FIRST; auction <= ALL; auction++) {
                CHECKS.equal("of 0, auction " + auction, game.profit(auction, 0, 1, 20, 30), ofWinner[auction]);
                CHECKS.equal("of 1, auction " + auction, game.profit(auction, 1, 0, 30, 20), ofOther[auction]);
            }
            CHECKS.equal("of the last two of 20", Checks.full().profit(FIRST, 18, 19, 50, 51), 8);
            CHECKS.equal("of the last of 20 against the first", Checks.full().profit(FIRST, 19, 0, 50, 0), 9);
        });
        SENTENCES.promise(16, AUCTIONS, () -> {
            Bidwhistle game = Checks.full();
            // 15 for the value 17 against 6
            int[] dues = {2, 11, 7, 2};
            for (int auction = FIRST; auction <= ALL; auction++) {
                CHECKS.equal("profit(" + auction + ", 12, 6, 17, 0)", game.profit(auction, 12, 6, 17, 0), dues[auction]);
            }
        });
        SENTENCES.promise(16, "- `value`: 0 to 99: that of the strategy", () -> {
            Bidwhistle game = Checks.full();
            CHECKS.equal("profit(FIRST, 9, 8, 0, 50)", game.profit(FIRST, 9, 8, 0, 50), -9);
            CHECKS.equal("profit(FIRST, 9, 8, 99, 50)", game.profit(FIRST, 9, 8, 99, 50), 90);
            CHECKS.equal("profit(ALL, 10, 9, 0, 50)", game.profit(ALL, 10, 9, 0, 50), 0);
            CHECKS.equal("profit(SECOND, 10, 9, 99, 50)", game.profit(SECOND, 10, 9, 99, 50), 90);
        });
        SENTENCES.promise(16, "- `others`: 0 to 99: that of the other one", () -> {
            Bidwhistle game = Checks.full();
            CHECKS.equal("profit(SECOND, 9, 10, 50, 0)", game.profit(SECOND, 9, 10, 50, 0), 50);
            CHECKS.equal("profit(ALL, 9, 10, 50, 99)", game.profit(ALL, 9, 10, 50, 99), -9);
        });
    }

    private static void worthsAre(Bidwhistle game, boolean isByValues, int strategy, int... dues) {
        for (int auction = FIRST; auction <= ALL; auction++) {
            int got = isByValues ? game.worthByValues(auction, strategy) : game.worth(auction, strategy);
            CHECKS.equal("of " + strategy + ", auction " + auction, got, dues[auction]);
        }
    }

    /** By hand: 0 bids its value, 1 half of it, 2 its value too. */
    private static void worths(boolean isByValues) {
        Bidwhistle game = Scenes.poolOf(of(V));
        worthsAre(game, isByValues, 0, 0, 0, 0, 0);
        game.tell(20, 30);
        worthsAre(game, isByValues, 0, 0, 0, 0, 0);
        game.join(Checks.store(game, V, 2, OVER));
        Checks.store(game, V, 0, PLUS);
        worthsAre(game, isByValues, 0, 0, 25, 13, 0);
        worthsAre(game, isByValues, 1, 0, 0, 0, -25);
        game.forget();
        worthsAre(game, isByValues, 1, 0, 0, 0, 0);
        game.tell(20, 20);
        game.join(2);
        worthsAre(game, isByValues, 0, 0, 20, 10, 0);
        worthsAre(game, isByValues, 2, 0, 20, 10, -40);
        game.leave(0);
        worthsAre(game, isByValues, 2, 0, 20, 10, 0);
    }

    /**
     * As many as can be, and the most that can be told: 0 to 7 bid this number, whatever the value; six times
     * 99 and 99, so 12 times each. 7 wins over all, 0 over none.
     */
    private static void greatestRounds(boolean isByValues) {
        Bidwhistle game = Checks.withNumbers(8);
        for (int i = 0; i < 8; i++) {
            game.join(i);
        }
        for (int i = 0; i < 6; i++) {
            game.tell(99, 99);
        }
        int halvesWithSeven = 3 + 4 + 4 + 5 + 5 + 6 + 6;
        worthsAre(game, isByValues, 7, 12 * 7 * 92, 12 * (7 * 99 - 21), 12 * (7 * 99 - halvesWithSeven), 12 * 7 * 92);
        worthsAre(game, isByValues, 0, 0, 0, 0, 0);
        worthsAre(game, isByValues, 1, 12 * 98, 12 * 99, 12 * 99, 12 * (98 - 6));
    }

    private static void worth() {
        SENTENCES.promise(17, "Returns the worth of a strategy in the pool, found strategy by strategy.", () -> {
            worths(false);
            greatestRounds(false);
        });
        SENTENCES.promise(17, AUCTIONS, () -> {
            worthsAre(Scenes.busy(), false, 1, worthsOfBusy());
        });
    }

    private static void worthByValues() {
        SENTENCES.promise(18, "Returns the same, found pair of values by pair of values, with the bids of all of the pool"
                + " laid in a row first.", () -> {
            worths(true);
            greatestRounds(true);
            Bidwhistle game = Scenes.full();
            for (int auction = FIRST; auction <= ALL; auction++) {
                for (int strategy : of(0, 1, 3, 4, 5, 6, 7, 19)) {
                    CHECKS.equal("of " + strategy + " in the full pool, auction " + auction,
                            game.worthByValues(auction, strategy), game.worth(auction, strategy));
                }
            }
        });
        SENTENCES.promise(18, AUCTIONS, () -> {
            worthsAre(Scenes.busy(), true, 1, worthsOfBusy());
        });
    }

    /**
     * For 20, 30, 60 and 10 the strategies bid: 0: 22, 32, 62, 12; 1: 60, 90, 180, 30; 4: 40, 60, 120, 20.
     * 1 with 20 wins over 32, and over the 60 of 4 by its lower number.
     */
    private static int[] worthsOfBusy() {
        int first = (20 - 60) * 2 + (30 - 90) * 2 + (60 - 180) * 2;
        int second = (20 - 32) + (20 - 60) + (30 - 22) + (30 - 40) + (60 - 12) + (60 - 20);
        int middle = (20 - 46) + (20 - 60) + (30 - 56) + (30 - 65) + (60 - 96) + (60 - 100);
        // with 10 it bids 30, against 62 and 120, and wins over none
        return of(first, second, middle, first - 30 * 2);
    }

    private static void best() {
        SENTENCES.promise(19, "Returns the strategy of the pool with the greatest worth; of several the one with the lowest"
                + " number.", () -> {
            // for 20 and 20 these bid 180, 15, 15 and 5: the worths by FIRST are less than 0, 0, 0 and 0
            Bidwhistle game = Scenes.poolOf(of(V, 9, TIMES), of(V, 5, MINUS), of(5, 3, TIMES), of(5));
            CHECKS.equal("without values, of all", game.best(FIRST), 0);
            game.tell(20, 20);
            CHECKS.equal("of three with 0", game.best(FIRST), 1);
            game.leave(0);
            CHECKS.equal("of three with 20 and less", game.best(FIRST), 1);
            game.leave(1);
            CHECKS.equal("of two, with 10 and 0", game.best(FIRST), 2);
            game.join(0);
            CHECKS.equal("by ALL, of -640, -20 and -20", game.best(ALL), 2);
            game.leave(2);
            CHECKS.equal("by ALL, of -320 and -10", game.best(ALL), 3);
            game.leave(3);
            CHECKS.equal("of one", game.best(ALL), 0);
            CHECKS.equal("the last of 20", bestOfLast(), 19);
        });
        SENTENCES.promise(19, AUCTIONS, () -> {
            // for 20 and 20: 10, 20, 15 and 180; the worths are as EvolveTest has them
            Bidwhistle game = Scenes.poolOf(of(V, 2, OVER), of(V, 0, PLUS), of(V, 5, MINUS), of(V, 9, TIMES));
            game.tell(20, 20);
            CHECKS.equal("best(FIRST)", game.best(FIRST), 2);
            CHECKS.equal("best(SECOND)", game.best(SECOND), 1);
            CHECKS.equal("best(MIDDLE)", game.best(MIDDLE), 1);
            CHECKS.equal("best(ALL)", game.best(ALL), 1);
        });
        SENTENCES.promise(19, "Returns the strategy; NONE if the pool is empty.", () -> {
            Bidwhistle game = Checks.full();
            for (int auction = FIRST; auction <= ALL; auction++) {
                CHECKS.equal("best(" + auction + ") of none", game.best(auction), NONE);
            }
            game.join(7);
            for (int auction = FIRST; auction <= ALL; auction++) {
                CHECKS.equal("best(" + auction + ") of one", game.best(auction), 7);
            }
            game.leave(7);
            game.tell(1, 2);
            CHECKS.equal("best(ALL) of none again", game.best(ALL), NONE);
        });
    }

    /** 19 bids 41 for 50, where 18 bids 42: it is the one that has a profit by FIRST then, against 0. */
    private static int bestOfLast() {
        Bidwhistle game = Checks.full();
        game.join(0);
        game.join(19);
        game.tell(50, 50);
        return game.best(FIRST);
    }

    private static void evolve() {
        SENTENCES.promise(20, "Evolves the pool by an auction.", () -> {
            Bidwhistle three = Scenes.poolOf(of(V, 2, PLUS), of(V, 3, TIMES), of(9));
            CHECKS.equal("with 3 in the pool", three.evolve(FIRST), 3);
            poolIs(three, 0, 1, 3);
            Bidwhistle eight = Scenes.poolOf(of(V, 2, PLUS), of(V, 3, TIMES), of(2), of(3), of(4), of(5), of(6), of(7));
            CHECKS.equal("with 8 in the pool", eight.evolve(FIRST), 8);
            poolIs(eight, 0, 1, 2, 3, 4, 5, 6, 8);
            CHECKS.throwing("join(7), as 8 are in it again", STATE, () -> eight.join(7));
            Bidwhistle nineteen = Scenes.nineteen();
            CHECKS.equal("with 19 stored", nineteen.evolve(FIRST), 19);
            poolIs(nineteen, 0, 1, 19);
            CHECKS.throwing("with 20 stored", STATE, () -> nineteen.evolve(FIRST));
            // the draft is not that of the child
            Bidwhistle drafted = Scenes.poolOf(of(V, 2, PLUS), of(V, 3, TIMES), of(9));
            Checks.draft(drafted, 7, 5);
            drafted.evolve(FIRST);
            CHECKS.equal("step(MINUS) behind it", drafted.step(MINUS), 3);
            CHECKS.equal("bid of the draft", drafted.bid(drafted.store(), 0), 2);
        });
        SENTENCES.promise(20, AUCTIONS, () -> {
            int[] leaving = {3, 0, 3, 3};
            int[] firsts = {2, 1, 1, 1};
            int[] seconds = {0, 3, 2, 2};
            for (int auction = FIRST; auction <= ALL; auction++) {
                Bidwhistle game = Scenes.poolOf(of(V, 2, OVER), of(V, 0, PLUS), of(V, 5, MINUS), of(V, 9, TIMES));
                game.tell(20, 20);
                CHECKS.equal("evolve(" + auction + ")", game.evolve(auction), 4);
                CHECKS.isFalse("isIn of the one of the least worth", game.isIn(leaving[auction]));
                parentsAre(game, 4, firsts[auction], seconds[auction]);
            }
        });
        SENTENCES.promise(20, "Returns the child that joins; NONE if none does.", () -> {
            Bidwhistle wrong = Scenes.poolOf(of(5), of(V, 3, TIMES), of(8));
            CHECKS.equal("to a program that is not right", wrong.evolve(FIRST), NONE);
            poolIs(wrong, 0, 1);
            Bidwhistle inIt = Scenes.poolOf(of(V, 2, PLUS), of(V, 3, TIMES), of(V, 2, TIMES), of(9));
            CHECKS.equal("to one in the pool", inIt.evolve(FIRST), NONE);
            poolIs(inIt, 0, 1, 2);
            Bidwhistle stored = Scenes.poolOf(of(V, 2, PLUS), of(V, 3, TIMES), of(9));
            Checks.store(stored, 1);
            Checks.store(stored, V, 2, TIMES);
            CHECKS.equal("to a stored one", stored.evolve(FIRST), 4);
            poolIs(stored, 0, 1, 4);
            Bidwhistle back = Scenes.poolOf(of(V, 2, PLUS), of(V, 3, TIMES), of(V, 2, TIMES));
            CHECKS.equal("to the one that leaves", back.evolve(MIDDLE), 2);
            poolIs(back, 0, 1, 2);
            CHECKS.equal("again, and again to it", back.evolve(ALL), 2);
        });
    }
}
