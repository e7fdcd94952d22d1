/**
 * Each "Throws" of the promises: exactly the exception that the throws clause names first, on the far side of each
 * limit, and nothing is changed by the call.
 */
public final class RefusedTest {
    interface Making {
        Bidwhistle make();
    }

    interface Using {
        void on(Bidwhistle game);
    }

    interface UsingWith {
        void on(Bidwhistle game, int argument);
    }

    private static final int V = Bidwhistle.VALUE, PLUS = Bidwhistle.PLUS, MINUS = Bidwhistle.MINUS,
            TIMES = Bidwhistle.TIMES, OVER = Bidwhistle.OVER, LESSER = Bidwhistle.LESSER, GREATER = Bidwhistle.GREATER;
    private static final int FIRST = Bidwhistle.FIRST, ALL = Bidwhistle.ALL;
    private static final Class<IllegalArgumentException> ARGUMENT = IllegalArgumentException.class;
    private static final Class<IllegalStateException> STATE = IllegalStateException.class;
    private static final Class<IndexOutOfBoundsException> INDEX = IndexOutOfBoundsException.class;
    private static final String NO_STRATEGY = "Throws `IndexOutOfBoundsException` as told";
    private static final String NO_STEP = "Throws `IllegalArgumentException` if there is no such step";
    private static final String NO_AUCTION = "Throws `IllegalArgumentException` if there is no such auction";
    private static final String NOT_IN_IT = "Throws `IllegalStateException` if it is not in the pool";
    private static final Making[] ALL_SCENES = {Scenes::fresh, Scenes::busy, Scenes::full};

    private static final Checks CHECKS = new Checks();
    private static final Sentences SENTENCES = new Sentences(CHECKS);

    public static void main(String[] args) {
        snapshot();
        step();
        store();
        bid();
        alikeAndParent();
        join();
        leaveAndIsIn();
        forbidAndAllow();
        tell();
        profit();
        worth();
        worthByValues();
        best();
        evolve();
        SENTENCES.endOfPromises(line -> line.startsWith("Throws "));
    }

    /** A snapshot that would not see a change would let each refused call pass. */
    private static void snapshot() {
        CHECKS.about("the snapshot");
        for (Making making : ALL_SCENES) {
            CHECKS.isTrue("is the same twice", Snapshot.of(making.make()).equals(Snapshot.of(making.make())));
        }
        seen("step(V)", Scenes::busy, game -> game.step(V));
        seen("scrap()", Scenes::busy, game -> game.scrap());
        seen("scrap() of 7", Scenes::full, game -> game.scrap());
        seen("another draft of two steps", Scenes::busy, game -> {
            game.scrap();
            Checks.draft(game, V, 5);
        });
        seen("store()", () -> withDraft(V), game -> game.store());
        seen("join(5)", Scenes::busy, game -> game.join(5));
        seen("leave(19)", Scenes::full, game -> game.leave(19));
        seen("forbid(8)", Scenes::fresh, game -> game.forbid(8));
        seen("allow(9)", Scenes::full, game -> game.allow(9));
        seen("tell(0, 0)", Scenes::fresh, game -> game.tell(0, 0));
        seen("forget()", Scenes::full, game -> game.forget());
        seen("another last pair", Scenes::busy, game -> {
            game.forget();
            game.tell(20, 30);
            game.tell(60, 11);
        });
        seen("evolve(FIRST)", Scenes::busy, game -> game.evolve(FIRST));
    }

    private static void seen(String change, Making making, Using using) {
        Bidwhistle game = making.make();
        using.on(game);
        CHECKS.isFalse("does not see " + change, Snapshot.of(game).equals(Snapshot.of(making.make())));
    }

    private static void refused(String call, Class<? extends RuntimeException> due, Making making, Using using) {
        Bidwhistle game = making.make();
        CHECKS.throwing(call, due, () -> using.on(game));
        CHECKS.isTrue(call + " changes nothing", Snapshot.of(game).equals(Snapshot.of(making.make())));
    }

    private static void refusedInAll(String call, Class<? extends RuntimeException> due, Using using) {
        for (Making making : ALL_SCENES) {
            refused(call, due, making, using);
        }
    }

    /** The numbers next to 0 .. end - 1 on both sides, and those as far from them as can be. */
    private static int[] outOf(int end) {
        return new int[] {Integer.MIN_VALUE, -1, end, Integer.MAX_VALUE};
    }

    /** "it" in the call's text stands for a strategy that is not there. */
    private static void noStrategy(String call, UsingWith using) {
        for (Making making : ALL_SCENES) {
            for (int wrong : outOf(making.make().stored())) {
                refused(call + ", it being " + wrong, INDEX, making, game -> using.on(game, wrong));
            }
        }
    }

    private static void noStep(String call, UsingWith using) {
        for (int wrong : outOf(GREATER + 1)) {
            refusedInAll(call + ", it being " + wrong, ARGUMENT, game -> using.on(game, wrong));
        }
        // these have the bits of a step, if but the last five bits are looked at
        for (int wrong : new int[] {32, -32, 32 + V, 1 << 16}) {
            refusedInAll(call + ", it being " + wrong, ARGUMENT, game -> using.on(game, wrong));
        }
    }

    private static void noAuction(String call, Making making, UsingWith using) {
        for (int wrong : outOf(ALL + 1)) {
            refused(call + ", it being " + wrong, ARGUMENT, making, game -> using.on(game, wrong));
        }
    }

    private static void noValue(String call, Making making, UsingWith using) {
        for (int wrong : outOf(100)) {
            refused(call + ", it being " + wrong, ARGUMENT, making, game -> using.on(game, wrong));
        }
    }

    private static Bidwhistle withDraft(int... steps) {
        Bidwhistle game = Scenes.busy();
        game.scrap();
        Checks.draft(game, steps);
        return game;
    }

    private static void step() {
        // in the full scene the draft has 7 steps, so that both exceptions apply
        SENTENCES.promise(2, NO_STEP, () -> noStep("step(it)", (game, wrong) -> game.step(wrong)));
        SENTENCES.promise(2, "Throws `IllegalStateException` if it has 7", () -> {
            for (int step = 0; step <= GREATER; step++) {
                int eighth = step;
                refused("step(" + step + ")", STATE, Scenes::full, game -> game.step(eighth));
                refused("step(" + step + ") with 7 that are not right", STATE, () -> withDraft(V, V, V, V, V, V, V),
                        game -> game.step(eighth));
            }
        });
    }

    private static void store() {
        SENTENCES.promise(4, "Throws `IllegalStateException` if it is not right, or its program is not stored and 20 are",
                () -> {
            int[][] wrongs = {
                {}, {PLUS}, {GREATER}, {1, PLUS}, {PLUS, 1, 2}, {1, PLUS, 2}, {V, MINUS, 1}, {1, 2, PLUS, PLUS},
                {V, V}, {1, 2, 3, PLUS}, {1, GREATER, 2, 3}, {V, V, V, V, V, V, V}, {1, 2, 3, 4, 5, PLUS, PLUS},
                {1, 2, 3, PLUS, PLUS, PLUS, 4}, {PLUS, PLUS, PLUS, PLUS, PLUS, PLUS, PLUS},
            };
            for (int[] wrong : wrongs) {
                refused("store() of " + wrong.length + " steps", STATE, () -> withDraft(wrong), game -> game.store());
            }
            refused("store() of a new object", STATE, Scenes::fresh, game -> game.store());
            refused("store() of the twenty-first", STATE, Scenes::full, game -> game.store());
            refused("store() of an empty draft with 20", STATE, RefusedTest::fullWithoutDraft, game -> game.store());
        });
    }

    private static Bidwhistle fullWithoutDraft() {
        Bidwhistle game = Scenes.full();
        game.scrap();
        return game;
    }

    private static void bid() {
        SENTENCES.promise(6, NO_STRATEGY, () -> {
            noStrategy("bid(it, 0)", (game, wrong) -> game.bid(wrong, 0));
            noStrategy("bid(it, 100)", (game, wrong) -> game.bid(wrong, 100));
        });
        SENTENCES.promise(6, "Throws `IllegalArgumentException` if value is out of range", () -> {
            noValue("bid(0, it)", Scenes::busy, (game, wrong) -> game.bid(0, wrong));
            noValue("bid(19, it)", Scenes::full, (game, wrong) -> game.bid(19, wrong));
        });
    }

    private static void alikeAndParent() {
        SENTENCES.promise(7, NO_STRATEGY, () -> noStrategy("alike(it)", (game, wrong) -> game.alike(wrong)));
        SENTENCES.promise(8, NO_STRATEGY, () -> {
            noStrategy("parent(it, true)", (game, wrong) -> game.parent(wrong, true));
            noStrategy("parent(it, false)", (game, wrong) -> game.parent(wrong, false));
        });
    }

    private static Bidwhistle withEightAndAllAllowed() {
        Bidwhistle game = Scenes.full();
        game.allow(9);
        return game;
    }

    private static void join() {
        // in the full scene 8 are in the pool, so that both exceptions apply
        SENTENCES.promise(9, NO_STRATEGY, () -> noStrategy("join(it)", (game, wrong) -> game.join(wrong)));
        SENTENCES.promise(9, "Throws `IllegalStateException` if it is in it, has a forbidden step, or 8 are in it", () -> {
            for (int inIt : new int[] {0, 1, 4}) {
                refused("join(" + inIt + "), which is in it", STATE, Scenes::busy, game -> game.join(inIt));
            }
            refused("join(0), which is in it with 7 others", STATE, Scenes::full, game -> game.join(0));
            refused("join(2), which has a forbidden step", STATE, Scenes::busy, game -> game.join(2));
            for (int step : new int[] {V, 5, MINUS}) {
                refused("join(3), whose step " + step + " is forbidden", STATE, () -> busyForbidding(step),
                        game -> game.join(3));
            }
            for (int out : new int[] {2, 8, 18}) {
                refused("join(" + out + "), with 8 in it", STATE, RefusedTest::withEightAndAllAllowed,
                        game -> game.join(out));
            }
            refused("join(2), for two reasons", STATE, Scenes::full, game -> game.join(2));
        });
    }

    private static Bidwhistle busyForbidding(int step) {
        Bidwhistle game = Scenes.busy();
        game.forbid(step);
        return game;
    }

    private static void leaveAndIsIn() {
        SENTENCES.promise(10, NO_STRATEGY, () -> noStrategy("leave(it)", (game, wrong) -> game.leave(wrong)));
        SENTENCES.promise(10, "Throws `IllegalStateException` if it is not in it", () -> {
            for (int out : new int[] {2, 3, 5}) {
                refused("leave(" + out + ")", STATE, Scenes::busy, game -> game.leave(out));
            }
            refused("leave(18)", STATE, Scenes::full, game -> game.leave(18));
            refused("leave(0) again", STATE, RefusedTest::busyWithoutPool, game -> game.leave(0));
            refused("leave(0), which has left by a step", STATE, () -> busyForbidding(PLUS), game -> game.leave(0));
        });
        SENTENCES.promise(11, NO_STRATEGY, () -> noStrategy("isIn(it)", (game, wrong) -> game.isIn(wrong)));
    }

    private static Bidwhistle busyWithoutPool() {
        Bidwhistle game = Scenes.busy();
        game.leave(0);
        game.leave(1);
        game.leave(4);
        return game;
    }

    private static void forbidAndAllow() {
        SENTENCES.promise(12, NO_STEP, () -> noStep("forbid(it)", (game, wrong) -> game.forbid(wrong)));
        SENTENCES.promise(13, NO_STEP, () -> noStep("allow(it)", (game, wrong) -> game.allow(wrong)));
    }

    private static void tell() {
        SENTENCES.promise(14, "Throws `IllegalArgumentException` if one or two is out of range", () -> {
            for (Making making : ALL_SCENES) {
                // in the full scene 6 are told, so that both exceptions apply
                noValue("tell(it, 50)", making, (game, wrong) -> game.tell(wrong, 50));
                noValue("tell(50, it)", making, (game, wrong) -> game.tell(50, wrong));
                noValue("tell(it, it)", making, (game, wrong) -> game.tell(wrong, wrong));
            }
        });
        SENTENCES.promise(14, "Throws `IllegalStateException` if 6 are told", () -> {
            refused("tell(0, 0), the seventh", STATE, Scenes::full, game -> game.tell(0, 0));
            refused("tell(99, 99), the seventh", STATE, Scenes::full, game -> game.tell(99, 99));
            refused("tell(0, 99), which is told already", STATE, Scenes::full, game -> game.tell(0, 99));
        });
    }

    private static void profit() {
        SENTENCES.promise(16, "Throws `IndexOutOfBoundsException` as told, of either", () -> {
            noStrategy("profit(FIRST, it, 0, 1, 1)", (game, wrong) -> game.profit(FIRST, wrong, 0, 1, 1));
            noStrategy("profit(FIRST, 0, it, 1, 1)", (game, wrong) -> game.profit(FIRST, 0, wrong, 1, 1));
            noStrategy("profit(FIRST, it, it, 1, 1)", (game, wrong) -> game.profit(FIRST, wrong, wrong, 1, 1));
            noStrategy("profit(4, it, 0, 100, -1)", (game, wrong) -> game.profit(4, wrong, 0, 100, -1));
            noStrategy("profit(-1, 0, it, -1, 100)", (game, wrong) -> game.profit(-1, 0, wrong, -1, 100));
        });
        SENTENCES.promise(16, "Throws `IllegalArgumentException` if both are the same, there is no such auction, or value"
                + " or others is out of range", () -> {
            for (int both : new int[] {0, 1, 5}) {
                refused("profit of " + both + " against itself", ARGUMENT, Scenes::busy,
                        game -> game.profit(FIRST, both, both, 1, 2));
            }
            noAuction("profit(it, 0, 1, 1, 1)", Scenes::busy, (game, wrong) -> game.profit(wrong, 0, 1, 1, 1));
            noValue("profit(ALL, 0, 1, it, 1)", Scenes::busy, (game, wrong) -> game.profit(ALL, 0, 1, wrong, 1));
            noValue("profit(ALL, 0, 1, 1, it)", Scenes::busy, (game, wrong) -> game.profit(ALL, 0, 1, 1, wrong));
            noValue("profit(ALL, 18, 19, it, it)", Scenes::full,
                    (game, wrong) -> game.profit(ALL, 18, 19, wrong, wrong));
        });
    }

    private static void worth() {
        SENTENCES.promise(17, NO_STRATEGY, () -> {
            noStrategy("worth(FIRST, it)", (game, wrong) -> game.worth(FIRST, wrong));
            noStrategy("worth(4, it)", (game, wrong) -> game.worth(4, wrong));
        });
        SENTENCES.promise(17, NO_AUCTION, () -> {
            noAuction("worth(it, 0)", Scenes::busy, (game, wrong) -> game.worth(wrong, 0));
            noAuction("worth(it, 2), which is out", Scenes::busy, (game, wrong) -> game.worth(wrong, 2));
        });
        SENTENCES.promise(17, NOT_IN_IT, () -> {
            for (int auction = FIRST; auction <= ALL; auction++) {
                int each = auction;
                refused("worth(" + each + ", 2)", STATE, Scenes::busy, game -> game.worth(each, 2));
                refused("worth(" + each + ", 18)", STATE, Scenes::full, game -> game.worth(each, 18));
                refused("worth(" + each + ", 0), of none", STATE, RefusedTest::busyWithoutPool,
                        game -> game.worth(each, 0));
            }
        });
    }

    private static void worthByValues() {
        SENTENCES.promise(18, NO_STRATEGY, () -> {
            noStrategy("worthByValues(FIRST, it)", (game, wrong) -> game.worthByValues(FIRST, wrong));
            noStrategy("worthByValues(4, it)", (game, wrong) -> game.worthByValues(4, wrong));
        });
        SENTENCES.promise(18, NO_AUCTION, () -> {
            noAuction("worthByValues(it, 0)", Scenes::busy, (game, wrong) -> game.worthByValues(wrong, 0));
            noAuction("worthByValues(it, 2), which is out", Scenes::busy, (game, wrong) -> game.worthByValues(wrong, 2));
        });
        SENTENCES.promise(18, NOT_IN_IT, () -> {
            for (int auction = FIRST; auction <= ALL; auction++) {
                int each = auction;
                refused("worthByValues(" + each + ", 2)", STATE, Scenes::busy, game -> game.worthByValues(each, 2));
                refused("worthByValues(" + each + ", 18)", STATE, Scenes::full, game -> game.worthByValues(each, 18));
                refused("worthByValues(" + each + ", 0), of none", STATE, RefusedTest::busyWithoutPool,
                        game -> game.worthByValues(each, 0));
            }
        });
    }

    private static void best() {
        SENTENCES.promise(19, NO_AUCTION, () -> {
            for (Making making : ALL_SCENES) {
                noAuction("best(it)", making, (game, wrong) -> game.best(wrong));
            }
        });
    }

    private static void evolve() {
        SENTENCES.promise(20, NO_AUCTION, () -> {
            // in the new object fewer than 3 are in the pool, and in the full one 20 are stored: both apply
            for (Making making : ALL_SCENES) {
                noAuction("evolve(it)", making, (game, wrong) -> game.evolve(wrong));
            }
        });
        SENTENCES.promise(20, "Throws `IllegalStateException` if fewer than 3 strategies are in the pool, or 20 are stored",
                () -> {
            for (int auction = FIRST; auction <= ALL; auction++) {
                int each = auction;
                for (int size = 0; size <= 2; size++) {
                    int few = size;
                    refused("evolve(" + each + ") with " + few, STATE, () -> withPoolOf(few), game -> game.evolve(each));
                }
                refused("evolve(" + each + ") with 20 stored", STATE, Scenes::full, game -> game.evolve(each));
                refused("evolve(" + each + ") with 20 stored, to one that is", STATE, RefusedTest::fullWithChildOut,
                        game -> game.evolve(each));
            }
        });
    }

    private static Bidwhistle withPoolOf(int size) {
        Bidwhistle game = new Bidwhistle();
        int[][] programs = {{V, 2, OVER}, {V, 3, LESSER}, {V, 4, TIMES}};
        for (int[] program : programs) {
            Checks.store(game, program);
        }
        for (int i = 0; i < size; i++) {
            game.join(2 - i);
        }
        game.tell(40, 41);
        return game;
    }

    /** The next child by FIRST, without values, would be 19: V 2 *, which is stored and not in the pool. */
    private static Bidwhistle fullWithChildOut() {
        Bidwhistle game = Scenes.full();
        game.forget();
        game.leave(19);
        return game;
    }
}
