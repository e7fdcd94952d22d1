/** Objects to try calls on; each time they are made anew, by the same calls. */
final class Scenes {
    private static final int V = Bidwhistle.VALUE, PLUS = Bidwhistle.PLUS, MINUS = Bidwhistle.MINUS,
            TIMES = Bidwhistle.TIMES, GREATER = Bidwhistle.GREATER;

    static final int CALLS_OF_FULL = 81;

    private Scenes() {
    }

    static Bidwhistle fresh() {
        return new Bidwhistle();
    }

    /**
     * 0: V 2 +, 1: V 3 *, 2: 9, 3: V 5 -, 4: V 2 *, the child of 0 and 1, 5: 7; 0, 1 and 4 are in the pool,
     * 9 is forbidden, two pairs are told, the draft is V 4.
     */
    static Bidwhistle busy() {
        Bidwhistle game = new Bidwhistle();
        game.join(Checks.store(game, V, 2, PLUS));
        game.join(Checks.store(game, V, 3, TIMES));
        game.join(Checks.store(game, 9));
        Checks.store(game, V, 5, MINUS);
        game.evolve(Bidwhistle.FIRST);
        Checks.store(game, 7);
        game.forbid(9);
        game.tell(20, 30);
        game.tell(60, 10);
        Checks.draft(game, V, 4);
        return game;
    }

    /**
     * 0: V 2 +, 1: V 3 *, 2: 9, 3 to 18: 0, V 0 greater, 1, V 1 greater and so on to 7, 19: V 2 *, the child of
     * 0 and 1; 0, 1, 3 to 7 and 19 are in the pool, 9 is forbidden, six pairs are told, the draft has 7 steps
     * and is right, but not stored.
     */
    static Bidwhistle full() {
        Bidwhistle game = nineteen();
        game.evolve(Bidwhistle.FIRST);
        for (int i = 3; i <= 7; i++) {
            game.join(i);
        }
        game.forbid(9);
        for (int i = 0; i < 6; i++) {
            game.tell(15 * i, 99 - i);
        }
        Checks.draft(game, V, 1, PLUS, 2, PLUS, 3, PLUS);
        return game;
    }

    /** The first 19 of full(); 0, 1 and 2 are in the pool, nothing is told or forbidden, the draft is empty. */
    static Bidwhistle nineteen() {
        Bidwhistle game = new Bidwhistle();
        game.join(Checks.store(game, V, 2, PLUS));
        game.join(Checks.store(game, V, 3, TIMES));
        game.join(Checks.store(game, 9));
        for (int i = 0; i < 8; i++) {
            Checks.store(game, i);
            Checks.store(game, V, i, GREATER);
        }
        return game;
    }

    /** All of these are in the pool; no pair is told, so that all of their worths are 0. */
    static Bidwhistle poolOf(int[]... programs) {
        Bidwhistle game = new Bidwhistle();
        for (int[] program : programs) {
            game.join(Checks.store(game, program));
        }
        return game;
    }

    static int[] of(int... steps) {
        return steps;
    }
}
