import java.util.function.Supplier;

/**
 * All that can be seen of an object, as text: what it has stored, its pool, its rounds, its draft, its rules and
 * what would come of evolving it. The calls that it makes for that, some 400 at most, use the object up.
 */
final class Snapshot {
    private static final int[] SOME_VALUES = {0, 50, 99};

    private final Bidwhistle game;
    private final StringBuilder text = new StringBuilder();

    private Snapshot(Bidwhistle game) {
        this.game = game;
    }

    static String of(Bidwhistle game) {
        Snapshot snapshot = new Snapshot(game);
        snapshot.strategies();
        snapshot.rounds();
        snapshot.draft();
        snapshot.joining();
        snapshot.rounds();
        snapshot.evolving();
        snapshot.rules();
        return snapshot.text.toString();
    }

    private void note(String call, Supplier<Object> made) {
        String answer;
        try {
            answer = made.get().toString();
        } catch (RuntimeException thrown) {
            answer = thrown.getClass().getSimpleName();
        }
        text.append(call).append(' ').append(answer).append('\n');
    }

    private void strategies() {
        note("stored", game::stored);
        for (int i = 0; i < game.stored(); i++) {
            int strategy = i;
            for (int value : SOME_VALUES) {
                note("bid " + i, () -> game.bid(strategy, value));
            }
            note("alike " + i, () -> game.alike(strategy));
            note("first parent " + i, () -> game.parent(strategy, true));
            note("second parent " + i, () -> game.parent(strategy, false));
            note("isIn " + i, () -> game.isIn(strategy));
        }
    }

    private void rounds() {
        for (int i = Bidwhistle.FIRST; i <= Bidwhistle.ALL; i++) {
            int auction = i;
            note("best " + i, () -> game.best(auction));
            for (int j = 0; j < game.stored(); j++) {
                int strategy = j;
                if (game.isIn(j)) {
                    note("worth " + i + " " + j, () -> game.worth(auction, strategy));
                }
            }
        }
    }

    /** Goes on with the draft until it can be stored, and looks at what it bids then. */
    private void draft() {
        for (int i = 0; i < 4; i++) {
            note("store", game::store);
            note("step", () -> game.step(Bidwhistle.PLUS));
        }
        note("scrap", game::scrap);
        int last = game.stored() - 1;
        for (int value : SOME_VALUES) {
            note("bid of the last", () -> game.bid(last, value));
        }
    }

    private void joining() {
        for (int i = 0; i < game.stored(); i++) {
            int strategy = i;
            note("join " + i, () -> game.join(strategy));
        }
    }

    private void evolving() {
        for (int i = Bidwhistle.FIRST; i <= Bidwhistle.ALL; i++) {
            int auction = i;
            note("evolve " + i, () -> game.evolve(auction));
        }
        for (int i = 0; i < game.stored(); i++) {
            int strategy = i;
            note("isIn " + i, () -> game.isIn(strategy));
        }
    }

    private void rules() {
        note("forget", game::forget);
        for (int i = 0; i <= Bidwhistle.GREATER; i++) {
            int step = i;
            note("allow " + i, () -> game.allow(step));
        }
    }
}
