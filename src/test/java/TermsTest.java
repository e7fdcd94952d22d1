import java.util.Arrays;

/** The section "Terms", sentence by sentence, at the limits that each of them names. */
public final class TermsTest {
    private static final int V = Bidwhistle.VALUE, PLUS = Bidwhistle.PLUS, MINUS = Bidwhistle.MINUS,
            TIMES = Bidwhistle.TIMES, OVER = Bidwhistle.OVER, LESSER = Bidwhistle.LESSER, GREATER = Bidwhistle.GREATER;
    private static final int FIRST = Bidwhistle.FIRST, SECOND = Bidwhistle.SECOND, MIDDLE = Bidwhistle.MIDDLE,
            ALL = Bidwhistle.ALL, NONE = Bidwhistle.NONE;
    private static final Class<IllegalArgumentException> ARGUMENT = IllegalArgumentException.class;
    private static final Class<IllegalStateException> STATE = IllegalStateException.class;
    private static final Class<IndexOutOfBoundsException> INDEX = IndexOutOfBoundsException.class;

    private static final Checks CHECKS = new Checks();
    private static final Sentences SENTENCES = new Sentences(CHECKS);

    public static void main(String[] args) {
        lengthOfPrograms();
        numbersAndValue();
        steps();
        over();
        bounds();
        rightPrograms();
        bids();
        strategies();
        pool();
        auctions();
        profits();
        pairs();
        worths();
        evolving();
        halves();
        joiningChild();
        refusedCalls();
        lastCall();
        SENTENCES.endOfTerms("The calls build and store", "Auctions.", "Ahead of the calls");
    }

    private static int bidOf(int value, int... steps) {
        Bidwhistle game = new Bidwhistle();
        return game.bid(Checks.store(game, steps), value);
    }

    private static int[] of(int... steps) {
        return steps;
    }

    private static boolean isRight(int... steps) {
        Bidwhistle game = new Bidwhistle();
        Checks.draft(game, steps);
        try {
            return game.store() == 0;
        } catch (IllegalStateException thrown) {
            return false;
        }
    }

    private static void lengthOfPrograms() {
        SENTENCES.term("A program is a row of 1 to 7 steps", () -> {
            CHECKS.isFalse("a program of no step", isRight());
            CHECKS.isTrue("a program of 1 step", isRight(0));
            CHECKS.isTrue("a program of 7 steps", isRight(1, 2, 3, 4, PLUS, PLUS, PLUS));
            CHECKS.equal("all 7 steps are done", bidOf(0, 1, 2, PLUS, 3, PLUS, 4, PLUS), 10);
            Bidwhistle game = new Bidwhistle();
            Checks.draft(game, 1, 2, 3, 4, PLUS, PLUS, PLUS);
            CHECKS.throwing("an eighth step", STATE, () -> game.step(5));
        });
        SENTENCES.term("done one after the other with a stack, which is empty at first", () -> {
            for (int step = PLUS; step <= GREATER; step++) {
                CHECKS.isFalse("a program of the step " + step + " alone", isRight(step));
                CHECKS.isFalse("a program of 1 and the step " + step, isRight(1, step));
            }
            // what one bid leaves behind must not help the next one
            Bidwhistle game = new Bidwhistle();
            Checks.store(game, V, 3, MINUS);
            CHECKS.equal("a bid", game.bid(0, 50), 47);
            CHECKS.equal("the same bid again", game.bid(0, 50), 47);
            CHECKS.equal("a store() behind them", Checks.store(game, 4, 5, TIMES), 1);
            CHECKS.equal("its bid", game.bid(1, 50), 20);
        });
    }

    private static void numbersAndValue() {
        SENTENCES.term("the steps 0 to 9 put this number on it", () -> {
            CHECKS.equal("0", bidOf(77, 0), 0);
            CHECKS.equal("1", bidOf(77, 1), 1);
            CHECKS.equal("9", bidOf(77, 9), 9);
        });
        SENTENCES.term("VALUE puts the value on it", () -> {
            CHECKS.equal("V for 0", bidOf(0, V), 0);
            CHECKS.equal("V for 1", bidOf(1, V), 1);
            CHECKS.equal("V for 99", bidOf(99, V), 99);
        });
    }

    private static void steps() {
        SENTENCES.term("each other step takes two numbers, the upper one being y, the one below it x, and puts one on"
                + " it", () -> {
            CHECKS.equal("9 5 2 - -, of the upper two first", bidOf(0, 9, 5, 2, MINUS, MINUS), 6);
            CHECKS.equal("1 2 3 4 - - -", bidOf(0, 1, 2, 3, 4, MINUS, MINUS, MINUS), 0);
            CHECKS.equal("7 2 3 4 - - -", bidOf(0, 7, 2, 3, 4, MINUS, MINUS, MINUS), 4);
            CHECKS.isFalse("1 2 3 +, which leaves two", isRight(1, 2, 3, PLUS));
        });
        SENTENCES.term("PLUS x + y, MINUS x - y, TIMES x * y, OVER x / y", () -> {
            CHECKS.equal("8 3 +", bidOf(0, 8, 3, PLUS), 11);
            CHECKS.equal("8 3 -", bidOf(0, 8, 3, MINUS), 5);
            CHECKS.equal("8 3 *", bidOf(0, 8, 3, TIMES), 24);
            CHECKS.equal("8 3 /", bidOf(0, 8, 3, OVER), 2);
            CHECKS.equal("3 8 /", bidOf(0, 3, 8, OVER), 0);
            CHECKS.equal("0 8 *", bidOf(0, 0, 8, TIMES), 0);
            CHECKS.equal("8 8 -", bidOf(0, 8, 8, MINUS), 0);
            CHECKS.equal("8 8 /", bidOf(0, 8, 8, OVER), 1);
        });
        SENTENCES.term("LESSER the lesser, GREATER the greater one of both", () -> {
            CHECKS.equal("3 8 lesser", bidOf(0, 3, 8, LESSER), 3);
            CHECKS.equal("8 3 lesser", bidOf(0, 8, 3, LESSER), 3);
            CHECKS.equal("3 8 greater", bidOf(0, 3, 8, GREATER), 8);
            CHECKS.equal("8 3 greater", bidOf(0, 8, 3, GREATER), 8);
            CHECKS.equal("5 5 lesser", bidOf(0, 5, 5, LESSER), 5);
            CHECKS.equal("5 5 greater", bidOf(0, 5, 5, GREATER), 5);
            // -7 and 3, and 9 more
            CHECKS.equal("0 7 - 3 lesser 9 +", bidOf(0, 0, 7, MINUS, 3, LESSER, 9, PLUS), 2);
            CHECKS.equal("0 7 - 3 greater 9 +", bidOf(0, 0, 7, MINUS, 3, GREATER, 9, PLUS), 12);
        });
    }

    private static void over() {
        SENTENCES.term("OVER x / y, rounded toward 0", () -> {
            CHECKS.equal("7 2 / 9 +", bidOf(0, 7, 2, OVER, 9, PLUS), 12);
            CHECKS.equal("0 7 - 2 / 9 +", bidOf(0, 0, 7, MINUS, 2, OVER, 9, PLUS), 6);
            CHECKS.equal("7 0 2 - / 9 +", bidOf(0, 7, 0, 2, MINUS, OVER, 9, PLUS), 6);
            // with the value 0 the two numbers are 0 - 7 and 0 - 2
            CHECKS.equal("V 7 - V 2 - /", bidOf(0, V, 7, MINUS, V, 2, MINUS, OVER), 3);
            CHECKS.equal("0 1 - 2 / 9 +: -1 / 2 is 0", bidOf(0, 0, 1, MINUS, 2, OVER, 9, PLUS), 9);
            CHECKS.equal("1 2 / 9 +: 1 / 2 is 0", bidOf(0, 1, 2, OVER, 9, PLUS), 9);
        });
        SENTENCES.term("(0 if y is 0)", () -> {
            CHECKS.equal("9 0 / 5 +", bidOf(0, 9, 0, OVER, 5, PLUS), 5);
            CHECKS.equal("0 9 - 0 / 5 +", bidOf(0, 0, 9, MINUS, 0, OVER, 5, PLUS), 5);
            CHECKS.equal("0 0 / 5 +", bidOf(0, 0, 0, OVER, 5, PLUS), 5);
            CHECKS.equal("V V / for 0", bidOf(0, V, V, OVER), 0);
            CHECKS.equal("V V / for 1", bidOf(1, V, V, OVER), 1);
            CHECKS.equal("9 V / for 0", bidOf(0, 9, V, OVER), 0);
            CHECKS.equal("8 V 3 - / for 3", bidOf(3, 8, V, 3, MINUS, OVER), 0);
            CHECKS.equal("8 V 3 - / for 4", bidOf(4, 8, V, 3, MINUS, OVER), 8);
        });
    }

    /**
     * These would show bounds that are lesser. That they are not greater shows in no bid: of 4 numbers only three
     * times the value can go beyond them, and what the fourth makes of that is above 999, or not above 0, or the
     * fourth itself, with the bounds and without.
     */
    private static void bounds() {
        SENTENCES.term("what would be above 100000 is that", () -> {
            CHECKS.equal("V V * V * V / for 99: above 999 still", bidOf(99, V, V, TIMES, V, TIMES, V, OVER), 999);
            CHECKS.equal("V V * 9 * V / for 99: 88209 / 99", bidOf(99, V, V, TIMES, 9, TIMES, V, OVER), 891);
            CHECKS.equal("V V * V * V / for 31: 29791 / 31", bidOf(31, V, V, TIMES, V, TIMES, V, OVER), 961);
            CHECKS.equal("V V * V V * * for 99, beyond an int's squares", bidOf(99, V, V, TIMES, V, V, TIMES, TIMES), 999);
            CHECKS.equal("V V * V * V * for 99", bidOf(99, V, V, TIMES, V, TIMES, V, TIMES), 999);
            CHECKS.equal("V V * V * V - for 99", bidOf(99, V, V, TIMES, V, TIMES, V, MINUS), 999);
            CHECKS.equal("V V V V * * / for 99: 0", bidOf(99, V, V, V, V, TIMES, TIMES, OVER), 0);
            CHECKS.equal("V V V * V * lesser for 99: V", bidOf(99, V, V, V, TIMES, V, TIMES, LESSER), 99);
        });
        SENTENCES.term("what would be below -100000 is that", () -> {
            CHECKS.equal("0 V V * V * - for 99: below 0", bidOf(99, 0, V, V, TIMES, V, TIMES, MINUS), 0);
            CHECKS.equal("9 V 0 V - * - for 31: 9 + 961", bidOf(31, 9, V, 0, V, MINUS, TIMES, MINUS), 970);
            CHECKS.equal("9 V 0 V - * - for 99: above 999", bidOf(99, 9, V, 0, V, MINUS, TIMES, MINUS), 999);
            CHECKS.equal("0 V - V * V * for 99: below 0", bidOf(99, 0, V, MINUS, V, TIMES, V, TIMES), 0);
            CHECKS.equal("V 0 V - V * / for 99: 0", bidOf(99, V, 0, V, MINUS, V, TIMES, OVER), 0);
            CHECKS.equal("V 0 V - V * greater for 99: V", bidOf(99, V, 0, V, MINUS, V, TIMES, GREATER), 99);
        });
    }

    private static void rightPrograms() {
        SENTENCES.term("A program is right if each step finds what it takes, and one number is left at the"
                + " end", () -> {
            CHECKS.isTrue("1", isRight(1));
            CHECKS.isTrue("1 2 +", isRight(1, 2, PLUS));
            CHECKS.isFalse("1 2", isRight(1, 2));
            CHECKS.isFalse("1 +", isRight(1, PLUS));
            CHECKS.isFalse("+ 1 2: none found, though the count is that of 1 2 +", isRight(PLUS, 1, 2));
            CHECKS.isFalse("1 + 2: one found", isRight(1, PLUS, 2));
            CHECKS.isFalse("1 2 + +: one found at the end", isRight(1, 2, PLUS, PLUS));
            CHECKS.isFalse("1 2 + + 3: one found, one left", isRight(1, 2, PLUS, PLUS, 3));
            CHECKS.isFalse("1 2 3 +: two left", isRight(1, 2, 3, PLUS));
            CHECKS.isFalse("7 numbers: seven left", isRight(1, 2, 3, 4, 5, 6, 7));
            CHECKS.isTrue("4 numbers and 3 steps", isRight(V, V, V, V, OVER, OVER, OVER));
            CHECKS.isTrue("1 2 + 3 + 4 +", isRight(1, 2, PLUS, 3, PLUS, 4, PLUS));
            CHECKS.isFalse("1 2 + 3 + + 4", isRight(1, 2, PLUS, 3, PLUS, PLUS, 4));
        });
        SENTENCES.term("each has a right program, no two the same one", () -> {
            Bidwhistle game = new Bidwhistle();
            Checks.draft(game, 1, 2);
            CHECKS.throwing("store() of 1 2", STATE, () -> game.store());
            game.scrap();
            CHECKS.equal("store() of V", Checks.store(game, V), 0);
            CHECKS.equal("store() of V again", Checks.store(game, V), 0);
            CHECKS.equal("store() of V 1 *, which bids the same", Checks.store(game, V, 1, TIMES), 1);
            CHECKS.equal("stored()", game.stored(), 2);
        });
    }

    private static void bids() {
        SENTENCES.term("the bid is this number, but at least 0 and at most 999", () -> {
            CHECKS.equal("-81", bidOf(0, 0, 9, 9, TIMES, MINUS), 0);
            CHECKS.equal("-1", bidOf(0, V, 1, MINUS), 0);
            CHECKS.equal("0", bidOf(1, V, 1, MINUS), 0);
            CHECKS.equal("1", bidOf(2, V, 1, MINUS), 1);
            CHECKS.equal("998", bidOf(99, V, 9, TIMES, V, 8, PLUS, PLUS), 998);
            CHECKS.equal("999", bidOf(99, V, 9, TIMES, V, 9, PLUS, PLUS), 999);
            CHECKS.equal("999 as 37 times 27", bidOf(37, V, 9, 3, TIMES, TIMES), 999);
            CHECKS.equal("1000", bidOf(25, V, 8, 5, TIMES, TIMES), 999);
            CHECKS.equal("9801", bidOf(99, V, V, TIMES), 999);
        });
    }

    private static void strategies() {
        SENTENCES.term("Strategies are numbered from 0, at most 20 are stored", () -> {
            Bidwhistle game = new Bidwhistle();
            for (int i = 0; i < 20; i++) {
                CHECKS.equal("stored() before", game.stored(), i);
                int number = i < 10 ? Checks.store(game, i) : Checks.store(game, V, i - 10, PLUS);
                CHECKS.equal("store() of another one", number, i);
            }
            Checks.draft(game, V);
            CHECKS.throwing("store() of one more", STATE, () -> game.store());
            CHECKS.equal("stored() behind it", game.stored(), 20);
            CHECKS.equal("bid(0, 50)", game.bid(0, 50), 0);
            CHECKS.equal("bid(19, 50)", game.bid(19, 50), 59);
        });
        SENTENCES.term("A strategy that was made by crossing has two parents.", () -> {
            Bidwhistle game = Scenes.busy();
            CHECKS.equal("parent(4, true)", game.parent(4, true), 0);
            CHECKS.equal("parent(4, false)", game.parent(4, false), 1);
            for (int other : new int[] {0, 1, 2, 3, 5}) {
                CHECKS.equal("parent(" + other + ", true)", game.parent(other, true), NONE);
                CHECKS.equal("parent(" + other + ", false)", game.parent(other, false), NONE);
            }
        });
    }

    private static void pool() {
        SENTENCES.term("The pool has at most 8 strategies, none at first.", () -> {
            Bidwhistle game = Checks.withNumbers(9);
            for (int i = 0; i < 9; i++) {
                CHECKS.isFalse("isIn(" + i + ") at first", game.isIn(i));
            }
            for (int i = 0; i < 8; i++) {
                CHECKS.equal("join(" + i + ")", game.join(i), i + 1);
            }
            CHECKS.throwing("join(8)", STATE, () -> game.join(8));
            CHECKS.isFalse("isIn(8)", game.isIn(8));
            CHECKS.equal("leave(3)", game.leave(3), 7);
            CHECKS.equal("join(8) behind it", game.join(8), 8);
        });
    }

    /** 0 and 1 bid their value, 2 bids half of it, 3 nine times it. */
    private static Bidwhistle bidders() {
        Bidwhistle game = new Bidwhistle();
        Checks.store(game, V);
        Checks.store(game, V, 0, PLUS);
        Checks.store(game, V, 2, OVER);
        Checks.store(game, V, 9, TIMES, 9, TIMES);
        return game;
    }

    private static void auctions() {
        SENTENCES.term("the one with the greater bid wins", () -> {
            Bidwhistle game = bidders();
            CHECKS.equal("of 0 with 31 against 30", game.profit(SECOND, 0, 1, 31, 30), 1);
            CHECKS.equal("of 0 with 29 against 30", game.profit(SECOND, 0, 1, 29, 30), 0);
            CHECKS.equal("of 1 with 31 against 30", game.profit(SECOND, 1, 0, 31, 30), 1);
            CHECKS.equal("of 1 with 29 against 30", game.profit(SECOND, 1, 0, 29, 30), 0);
        });
        SENTENCES.term("with the same bids the one with the lower number", () -> {
            Bidwhistle game = bidders();
            CHECKS.equal("of 0 against 1, 30 each", game.profit(ALL, 0, 1, 30, 30), 0);
            CHECKS.equal("of 1 against 0, 30 each", game.profit(ALL, 1, 0, 30, 30), -30);
            CHECKS.equal("of 2 against 0, 15 each", game.profit(ALL, 2, 0, 31, 15), -15);
            CHECKS.equal("of 0 against 2, 15 each", game.profit(ALL, 0, 2, 15, 31), 0);
            CHECKS.equal("of 2 against 0, 0 each", game.profit(ALL, 2, 0, 1, 0), 0);
            Checks.store(game, V, V, TIMES);
            CHECKS.equal("of 3 against 4, 999 each", game.profit(ALL, 3, 4, 99, 99), 99 - 999);
            CHECKS.equal("of 4 against 3, 999 each", game.profit(ALL, 4, 3, 99, 99), -999);
            CHECKS.equal("of 2 against 1 in it, 0 each", game.profit(FIRST, 2, 1, 1, 0), 0);
            CHECKS.equal("of 1 against 2, 0 each", game.profit(FIRST, 1, 2, 0, 1), 0);
            Checks.store(game, 0);
            CHECKS.equal("of 0 against 5, 0 each", game.profit(FIRST, 0, 5, 0, 99), 0);
            CHECKS.equal("of 5 against 0, 0 each", game.profit(FIRST, 5, 0, 99, 0), 0);
            CHECKS.equal("of 2 against 5, 0 each, with the value 1", game.profit(FIRST, 2, 5, 1, 99), 1);
        });
        SENTENCES.term("FIRST: the winner pays its bid", () -> {
            Bidwhistle game = bidders();
            CHECKS.equal("of the winner", game.profit(FIRST, 2, 0, 99, 48), 99 - 49);
            CHECKS.equal("of the other one", game.profit(FIRST, 0, 2, 48, 99), 0);
            CHECKS.equal("of one that pays more than its value", game.profit(FIRST, 3, 0, 99, 99), 99 - 999);
        });
        SENTENCES.term("SECOND: it pays the bid of the other one", () -> {
            Bidwhistle game = bidders();
            CHECKS.equal("of the winner", game.profit(SECOND, 2, 0, 99, 48), 99 - 48);
            CHECKS.equal("of the other one", game.profit(SECOND, 0, 2, 48, 99), 0);
            CHECKS.equal("of one that pays 0", game.profit(SECOND, 0, 1, 99, 0), 99);
            CHECKS.equal("of one that pays more than its value", game.profit(SECOND, 3, 0, 1, 80), 1 - 80);
        });
        SENTENCES.term("MIDDLE: it pays x + y, halved, rounded down", () -> {
            Bidwhistle game = bidders();
            CHECKS.equal("of 49 over 48: 48", game.profit(MIDDLE, 2, 0, 99, 48), 99 - 48);
            CHECKS.equal("of 49 over 47: 48", game.profit(MIDDLE, 2, 0, 99, 47), 99 - 48);
            CHECKS.equal("of 1 over 0: 0", game.profit(MIDDLE, 0, 1, 1, 0), 1);
            CHECKS.equal("of 0 over 0: 0", game.profit(MIDDLE, 0, 1, 0, 0), 0);
            CHECKS.equal("of 999 over 99: 549", game.profit(MIDDLE, 3, 0, 99, 99), 99 - 549);
            CHECKS.equal("of the other one", game.profit(MIDDLE, 0, 3, 99, 99), 0);
        });
        SENTENCES.term("ALL: both pay their bids, the winner or not", () -> {
            Bidwhistle game = bidders();
            CHECKS.equal("of the winner", game.profit(ALL, 2, 0, 99, 48), 99 - 49);
            CHECKS.equal("of the other one", game.profit(ALL, 0, 2, 48, 99), -48);
            CHECKS.equal("of the other one that bids 0", game.profit(ALL, 0, 2, 0, 99), 0);
        });
    }

    private static void profits() {
        SENTENCES.term("The profit is the value, for the winner (0 otherwise), less what is paid.", () -> {
            Bidwhistle game = bidders();
            Checks.store(game, 9);
            for (int auction = FIRST; auction <= MIDDLE; auction++) {
                CHECKS.equal("of one that does not win, " + auction, game.profit(auction, 1, 4, 8, 8), 0);
            }
            CHECKS.equal("of one that does not win, ALL", game.profit(ALL, 1, 4, 8, 8), -8);
            CHECKS.equal("of a winner with the value 0", game.profit(FIRST, 4, 0, 0, 8), -9);
            CHECKS.equal("of a winner with the value 99", game.profit(FIRST, 4, 0, 99, 8), 90);
        });
    }

    private static void pairs() {
        SENTENCES.term("There are at most 6 pairs of values that are told, none at first.", () -> {
            Bidwhistle game = new Bidwhistle();
            CHECKS.equal("forget() at first", game.forget(), 0);
            for (int i = 1; i <= 6; i++) {
                CHECKS.equal("tell(0, 0)", game.tell(0, 0), i);
            }
            CHECKS.throwing("tell(0, 0), the seventh", STATE, () -> game.tell(0, 0));
            CHECKS.equal("forget()", game.forget(), 6);
            CHECKS.equal("tell(0, 0) behind it", game.tell(0, 0), 1);
        });
    }

    private static void worthIs(Bidwhistle game, int auction, int strategy, int due) {
        String call = "(" + auction + ", " + strategy + ")";
        CHECKS.equal("worth" + call, game.worth(auction, strategy), due);
        CHECKS.equal("worthByValues" + call, game.worthByValues(auction, strategy), due);
    }

    private static void worths() {
        SENTENCES.term("The worth of a strategy in an auction is the sum of its profits against each other strategy"
                + " in the pool", () -> {
            Bidwhistle game = bidders();
            game.tell(40, 40);
            game.join(0);
            worthIs(game, ALL, 0, 0);
            game.join(1);
            worthIs(game, ALL, 1, -80);
            game.join(2);
            // against 1 it has -20 twice, against 0 too
            worthIs(game, ALL, 2, -80);
            game.leave(0);
            worthIs(game, ALL, 1, 0);
            worthIs(game, ALL, 2, -40);
        });
        SENTENCES.term("for each told pair, once with the first value of the pair, the other one having the second one,"
                + " and once with the second value, the other one having the first one", () -> {
            Bidwhistle game = bidders();
            game.join(0);
            game.join(2);
            for (int strategy : new int[] {0, 2}) {
                worthIs(game, FIRST, strategy, 0);
            }
            game.tell(80, 20);
            // 2 wins with 40 over 20, and loses with 10 to 80
            worthIs(game, FIRST, 2, 40);
            worthIs(game, ALL, 2, 40 - 10);
            worthIs(game, SECOND, 0, 80 - 10);
            game.tell(20, 80);
            worthIs(game, FIRST, 2, 80);
            game.tell(0, 99);
            // 2 with 49 over 0
            worthIs(game, FIRST, 2, 80 + 50);
            game.tell(7, 7);
            game.tell(7, 7);
            // 2 loses with 3 to 7, twice each
            worthIs(game, ALL, 2, 60 + 50 - 12);
            game.tell(0, 0);
            worthIs(game, ALL, 2, 60 + 50 - 12);
        });
    }

    private static void evolving() {
        SENTENCES.term("the strategy of the pool with the least worth leaves it, of several the one with the greatest"
                + " number", () -> {
            // for 20 and 20 these bid 180, 20 and 15: ALL makes them worth -640, -40 and -60
            Bidwhistle game = Scenes.poolOf(of(V, 9, TIMES), of(V), of(V, 5, MINUS));
            game.tell(20, 20);
            worthIs(game, ALL, 0, -640);
            game.evolve(ALL);
            CHECKS.isFalse("isIn(0), of the least worth", game.isIn(0));
            CHECKS.isTrue("isIn(1)", game.isIn(1));
            CHECKS.isTrue("isIn(2)", game.isIn(2));
            // 20, 11, 20 and 15: FIRST makes them worth 0, 0, 0 and 10
            Bidwhistle same = Scenes.poolOf(of(V), of(V, 9, MINUS), of(V, 0, PLUS), of(V, 5, MINUS));
            same.tell(20, 20);
            worthIs(same, FIRST, 3, 10);
            same.evolve(FIRST);
            CHECKS.isFalse("isIn(2), of several", same.isIn(2));
            for (int i : new int[] {0, 1, 3}) {
                CHECKS.isTrue("isIn(" + i + ")", same.isIn(i));
            }
        });
        SENTENCES.term("Then of those left the one with the greatest worth (as it was before), of several the lowest number,"
                + " is the first parent", () -> {
            parentsAre(Scenes.poolOf(of(V, 2, OVER), of(V, 5, MINUS), of(V, 9, TIMES)), 1, 0);
            parentsAre(Scenes.poolOf(of(V, 2, OVER), of(V, 0, PLUS), of(V, 9, TIMES)), 0, 1);
            // before, 1 had 10 against 2, which leaves: without it, all would be worth 0
            parentsAre(Scenes.poolOf(of(V, 0, PLUS), of(V, 5, MINUS), of(V, 2, OVER)), 1, 0);
        });
        SENTENCES.term("the next one in this order the second parent", () -> {
            // the worths are 12, 0, 20 and 20
            parentsAre(Scenes.poolOf(of(V, 2, MINUS), of(V, 4, LESSER), of(V, 5, MINUS), of(V, 2, OVER)), 2, 3);
            // 0, 20, 0 and less than 0
            parentsAre(Scenes.poolOf(of(V, 4, LESSER), of(V, 2, OVER), of(V, 0, PLUS), of(V, 9, TIMES)), 1, 0);
            // less than 0, 0, 0 and 0
            parentsAre(Scenes.poolOf(of(V, 9, TIMES), of(V, 0, PLUS), of(V, 1, TIMES), of(V, 5, MINUS)), 1, 2);
        });
    }

    /** By FIRST, with the pair 20 and 20. */
    private static void parentsAre(Bidwhistle game, int first, int second) {
        game.tell(20, 20);
        int child = game.evolve(FIRST);
        CHECKS.equal("first parent of " + child, game.parent(child, true), first);
        CHECKS.equal("second parent of " + child, game.parent(child, false), second);
    }

    private static void halves() {
        int[][] firsts = {{5}, {V, 6, LESSER}, {V, 6, LESSER, 7, LESSER}, {V, 6, LESSER, 7, LESSER, 8, LESSER}};
        int[][] seconds = {
            {4}, {V, 1, PLUS}, {V, 1, PLUS, 2, MINUS}, {V, 4, PLUS, 1, PLUS, 2, MINUS},
            {V, 1, 2, TIMES, PLUS}, {V, 5, 1, PLUS, TIMES, 2, MINUS}, {V, 5, PLUS, 1, 2, TIMES, PLUS},
        };
        SENTENCES.term("The child's program is the first half of the steps of the first parent (of n steps"
                + " (n + 1) / 2, rounded down), and behind that the last n / 2, rounded down, of the n steps of the second parent.", () -> {
            for (int[] first : firsts) {
                for (int[] second : seconds) {
                    halvesOf(first, second);
                }
            }
        });
    }

    /** The expected child is put together here from the two programs, by the counts of the sentence. */
    private static void halvesOf(int[] first, int[] second) {
        int front = (first.length + 1) / 2;
        int back = second.length / 2;
        int[] child = new int[front + back];
        System.arraycopy(first, 0, child, 0, front);
        System.arraycopy(second, second.length - back, child, front, back);
        String what = "the child of " + first.length + " and " + second.length + " steps";
        Bidwhistle game = Scenes.poolOf(first, second, of(0, 0, OVER));
        // of 1 and 1 steps comes the first parent itself, which is in the pool
        boolean joins = isRight(child) && !Arrays.equals(child, first);
        CHECKS.equal(what, game.evolve(FIRST), joins ? 3 : NONE);
        CHECKS.equal("stored() behind " + what, game.stored(), joins ? 4 : 3);
        if (joins) {
            CHECKS.equal("store() of " + what, Checks.store(game, child), 3);
        }
    }

    private static void joiningChild() {
        SENTENCES.term("If it is right, has no forbidden step, and is not in the pool, the child joins the"
                + " pool", () -> {
            Bidwhistle wrong = Scenes.poolOf(of(5), of(V, 3, TIMES), of(8));
            CHECKS.equal("evolve to 5 *, which is not right", wrong.evolve(FIRST), NONE);
            Bidwhistle inIt = Scenes.poolOf(of(5), of(6), of(7));
            CHECKS.equal("evolve to 5, which is in the pool", inIt.evolve(FIRST), NONE);
            CHECKS.isTrue("isIn(0)", inIt.isIn(0));
            Bidwhistle left = Scenes.poolOf(of(V, 2, PLUS), of(V, 3, TIMES), of(V, 2, TIMES));
            CHECKS.equal("evolve to the one that has just left", left.evolve(FIRST), 2);
            CHECKS.isTrue("isIn(2)", left.isIn(2));
            // a step that is forbidden is in no program of the pool, nor in what comes of two of them
            Bidwhistle allowed = Scenes.poolOf(of(V, 2, PLUS), of(V, 3, TIMES), of(8));
            allowed.forbid(9);
            allowed.forbid(7);
            allowed.allow(7);
            CHECKS.equal("evolve with other steps forbidden", allowed.evolve(FIRST), 3);
            CHECKS.isTrue("isIn(3)", allowed.isIn(3));
        });
        SENTENCES.term("it is stored, if it was not", () -> {
            Bidwhistle game = Scenes.nineteen();
            CHECKS.equal("evolve to a new one, the twentieth", game.evolve(FIRST), 19);
            CHECKS.equal("stored()", game.stored(), 20);
            Bidwhistle stored = Scenes.poolOf(of(V, 2, PLUS), of(V, 3, TIMES), of(8));
            Checks.store(stored, V, 2, TIMES);
            CHECKS.equal("evolve to a stored one", stored.evolve(FIRST), 3);
            CHECKS.equal("stored() behind it", stored.stored(), 4);
            Bidwhistle none = Scenes.poolOf(of(5), of(V, 3, TIMES), of(8));
            none.evolve(FIRST);
            CHECKS.equal("stored() without a child", none.stored(), 3);
        });
    }

    /** RefusedTest looks at each call for this; here is one of each kind. */
    private static void refusedCalls() {
        SENTENCES.term("If several exceptions apply to a call, the one that its throws clause names first is"
                + " thrown", () -> {
            Bidwhistle full = Scenes.full();
            CHECKS.throwing("step(17) with 7", ARGUMENT, () -> full.step(17));
            CHECKS.throwing("bid(20, 100)", INDEX, () -> full.bid(20, 100));
            CHECKS.throwing("join(20) with 8", INDEX, () -> full.join(20));
            CHECKS.throwing("tell(100, 0) with 6", ARGUMENT, () -> full.tell(100, 0));
            CHECKS.throwing("profit(4, 20, 20, 100, 100)", INDEX, () -> full.profit(4, 20, 20, 100, 100));
            CHECKS.throwing("worth(4, 20)", INDEX, () -> full.worth(4, 20));
            CHECKS.throwing("worth(4, 18), which is out", ARGUMENT, () -> full.worth(4, 18));
            CHECKS.throwing("worthByValues(4, 20)", INDEX, () -> full.worthByValues(4, 20));
            CHECKS.throwing("worthByValues(4, 18), which is out", ARGUMENT, () -> full.worthByValues(4, 18));
            CHECKS.throwing("evolve(4) with 20 stored", ARGUMENT, () -> full.evolve(4));
        });
        SENTENCES.term("a call that throws changes nothing", () -> {
            Bidwhistle full = Scenes.full();
            CHECKS.throwing("step(1) with 7", STATE, () -> full.step(1));
            CHECKS.throwing("store() of the twenty-first", STATE, () -> full.store());
            CHECKS.throwing("join(8) with 8", STATE, () -> full.join(8));
            CHECKS.throwing("leave(8), which is out", STATE, () -> full.leave(8));
            CHECKS.throwing("tell(1, 2) with 6", STATE, () -> full.tell(1, 2));
            CHECKS.throwing("evolve(FIRST) with 20 stored", STATE, () -> full.evolve(FIRST));
            CHECKS.isTrue("all is as it was", Snapshot.of(full).equals(Snapshot.of(Scenes.full())));
        });
        SENTENCES.term("IndexOutOfBoundsException is thrown if there is no such strategy.", () -> {
            Bidwhistle game = Scenes.fresh();
            CHECKS.throwing("isIn(0) of a new object", INDEX, () -> game.isIn(0));
            Checks.store(game, 4);
            CHECKS.isFalse("isIn(0) with one stored", game.isIn(0));
            CHECKS.throwing("isIn(1) with one stored", INDEX, () -> game.isIn(1));
            CHECKS.throwing("isIn(NONE)", INDEX, () -> game.isIn(NONE));
        });
        SENTENCES.term("`NONE = -1`: There is none. `VALUE = 10, PLUS = 11, MINUS = 12, TIMES = 13, OVER = 14, LESSER = 15,"
                + " GREATER = 16`: Steps besides 0 to 9. `FIRST = 0, SECOND = 1, MIDDLE = 2, ALL = 3`: Auctions.", () -> {
            int[] constants = {NONE, V, PLUS, MINUS, TIMES, OVER, LESSER, GREATER, FIRST, SECOND, MIDDLE, ALL};
            int[] dues = {-1, 10, 11, 12, 13, 14, 15, 16, 0, 1, 2, 3};
            for (int i = 0; i < dues.length; i++) {
                CHECKS.equal("constant " + i, constants[i], dues[i]);
            }
        });
    }

    private static void lastCall() {
        SENTENCES.term("An object is used for at most 512 calls after it has been made", () -> {
            Bidwhistle game = Scenes.full();
            int best = game.best(SECOND);
            int worth = game.worth(SECOND, best);
            for (int i = Scenes.CALLS_OF_FULL + 2; i < 511; i++) {
                game.best(i % 4);
            }
            CHECKS.equal("worth, call 512", game.worth(SECOND, best), worth);
            Bidwhistle refusing = Checks.withNumbers(1);
            for (int i = 2; i < 511; i++) {
                CHECKS.throwing("evolve, call " + (i + 1), STATE, () -> refusing.evolve(FIRST));
            }
            CHECKS.equal("join, call 512", refusing.join(0), 1);
        });
    }
}
