import java.util.ArrayList;

/** An auction game with strategies that are stored and evolved. */
public final class Bidwhistle {
    public static final int NONE = -1;
    public static final int VALUE = 10, PLUS = 11, MINUS = 12, TIMES = 13, OVER = 14, LESSER = 15, GREATER = 16;
    public static final int FIRST = 0, SECOND = 1, MIDDLE = 2, ALL = 3;

    private static final int MOST_STEPS = 7;
    private static final int MOST_STRATEGIES = 20;
    private static final int MOST_IN_POOL = 8;
    private static final int LEAST_TO_EVOLVE = 3;
    private static final int MOST_PAIRS = 6;
    private static final int VALUES = 100;
    private static final int GREATEST_NUMBER = 100000;
    private static final int GREATEST_BID = 999;

    private final Program draft;
    /** Kept apart from the draft, which evolving leaves as it is. */
    private final Program child;
    private final Stack stack;
    private final ArrayList<Strategy> strategies;
    /** A bit for each step. */
    private int forbiddenSteps;

    private final Row firstValues;
    private final Row secondValues;
    private int pairsTold;

    private final Row bidsForFirst;
    private final Row bidsForSecond;
    private final Row worths;

    public Bidwhistle() {
        draft = new Program();
        child = new Program();
        stack = new Stack();
        strategies = new ArrayList<Strategy>();
        forbiddenSteps = 0;
        firstValues = new Row(MOST_PAIRS);
        secondValues = new Row(MOST_PAIRS);
        pairsTold = 0;
        bidsForFirst = new Row(MOST_STRATEGIES);
        bidsForSecond = new Row(MOST_STRATEGIES);
        worths = new Row(MOST_STRATEGIES);
    }

    // ---- strategies

    public int step(int step) throws IllegalArgumentException, IllegalStateException {
        requireStep(step);
        if (draft.isFull()) {
            throw new IllegalStateException("the draft has 7 steps");
        }
        draft.add(step);
        return draft.length();
    }

    public int scrap() {
        int had = draft.length();
        draft.empty();
        return had;
    }

    public int store() throws IllegalStateException {
        if (!draft.isRight()) {
            throw new IllegalStateException("the draft is not right");
        }
        int number = numberOf(draft);
        if (number == NONE) {
            if (strategies.size() >= MOST_STRATEGIES) {
                throw new IllegalStateException("20 strategies are stored");
            }
            number = keep(draft, NONE, NONE);
        }
        draft.empty();
        return number;
    }

    public int stored() {
        return strategies.size();
    }

    public int bid(int strategy, int value) throws IndexOutOfBoundsException, IllegalArgumentException {
        Strategy bidder = strategyAt(strategy);
        requireValue(value);
        return bidder.bidFor(value);
    }

    public int alike(int strategy) throws IndexOutOfBoundsException {
        int kind = strategyAt(strategy).kind;
        int count = 0;
        for (int i = 0; i < strategies.size(); i++) {
            if (strategies.get(i).kind == kind) {
                count++;
            }
        }
        return count;
    }

    public int parent(int strategy, boolean isFirst) throws IndexOutOfBoundsException {
        Strategy line = strategyAt(strategy);
        return isFirst ? line.firstParent : line.secondParent;
    }

    // ---- the pool and rules

    public int join(int strategy) throws IndexOutOfBoundsException, IllegalStateException {
        Strategy joining = strategyAt(strategy);
        if (joining.inPool) {
            throw new IllegalStateException("it is in the pool");
        }
        if (joining.program.hasAnyOf(forbiddenSteps)) {
            throw new IllegalStateException("it has a forbidden step");
        }
        if (poolSize() >= MOST_IN_POOL) {
            throw new IllegalStateException("8 are in the pool");
        }
        joining.inPool = true;
        return poolSize();
    }

    public int leave(int strategy) throws IndexOutOfBoundsException, IllegalStateException {
        Strategy leaving = strategyAt(strategy);
        requireInPool(leaving);
        leaving.inPool = false;
        return poolSize();
    }

    public boolean isIn(int strategy) throws IndexOutOfBoundsException {
        return strategyAt(strategy).inPool;
    }

    public int forbid(int step) throws IllegalArgumentException {
        requireStep(step);
        forbiddenSteps = forbiddenSteps | bitOf(step);
        int leaving = 0;
        for (int i = 0; i < strategies.size(); i++) {
            Strategy strategy = strategies.get(i);
            if (strategy.inPool && (strategy.stepsOfLine & bitOf(step)) != 0) {
                strategy.inPool = false;
                leaving++;
            }
        }
        return leaving;
    }

    public boolean allow(int step) throws IllegalArgumentException {
        requireStep(step);
        boolean wasForbidden = (forbiddenSteps & bitOf(step)) != 0;
        forbiddenSteps = forbiddenSteps & ~bitOf(step);
        return wasForbidden;
    }

    // ---- values and rounds

    public int tell(int one, int two) throws IllegalArgumentException, IllegalStateException {
        requireValue(one);
        requireValue(two);
        if (pairsTold >= MOST_PAIRS) {
            throw new IllegalStateException("6 pairs are told");
        }
        firstValues.put(pairsTold, one);
        secondValues.put(pairsTold, two);
        pairsTold++;
        return pairsTold;
    }

    public int forget() {
        int were = pairsTold;
        pairsTold = 0;
        return were;
    }

    public int profit(int auction, int strategy, int other, int value, int others)
            throws IndexOutOfBoundsException, IllegalArgumentException {
        Strategy own = strategyAt(strategy);
        Strategy rival = strategyAt(other);
        if (strategy == other) {
            throw new IllegalArgumentException("both are the same");
        }
        requireAuction(auction);
        requireValue(value);
        requireValue(others);
        return profitAgainst(auction, own, rival, value, others);
    }

    public int worth(int auction, int strategy)
            throws IndexOutOfBoundsException, IllegalArgumentException, IllegalStateException {
        Strategy own = strategyAt(strategy);
        requireAuction(auction);
        requireInPool(own);
        return worthByStrategies(auction, own);
    }

    public int worthByValues(int auction, int strategy)
            throws IndexOutOfBoundsException, IllegalArgumentException, IllegalStateException {
        Strategy own = strategyAt(strategy);
        requireAuction(auction);
        requireInPool(own);
        int sum = 0;
        for (int pair = 0; pair < pairsTold; pair++) {
            int one = firstValues.at(pair);
            int two = secondValues.at(pair);
            layBids(one, bidsForFirst);
            layBids(two, bidsForSecond);
            sum += profitInRows(auction, strategy, one, bidsForFirst, bidsForSecond);
            sum += profitInRows(auction, strategy, two, bidsForSecond, bidsForFirst);
        }
        return sum;
    }

    public int best(int auction) throws IllegalArgumentException {
        requireAuction(auction);
        layWorths(auction);
        return strongestBut(NONE);
    }

    public int evolve(int auction) throws IllegalArgumentException, IllegalStateException {
        requireAuction(auction);
        if (poolSize() < LEAST_TO_EVOLVE) {
            throw new IllegalStateException("fewer than 3 are in the pool");
        }
        if (strategies.size() >= MOST_STRATEGIES) {
            throw new IllegalStateException("20 strategies are stored");
        }
        // The parents are chosen by the worths from before the weakest leaves, so these are laid once.
        layWorths(auction);
        strategyAt(weakest()).inPool = false;
        int firstParent = strongestBut(NONE);
        int secondParent = strongestBut(firstParent);
        cross(strategyAt(firstParent).program, strategyAt(secondParent).program);
        return letChildJoin(firstParent, secondParent);
    }

    // ---- what a call requires

    private static void requireStep(int step) throws IllegalArgumentException {
        if (step < 0 || step > GREATER) {
            throw new IllegalArgumentException("no such step");
        }
    }

    private static void requireValue(int value) throws IllegalArgumentException {
        if (value < 0 || value >= VALUES) {
            throw new IllegalArgumentException("a value out of range");
        }
    }

    private static void requireAuction(int auction) throws IllegalArgumentException {
        if (auction < FIRST || auction > ALL) {
            throw new IllegalArgumentException("no such auction");
        }
    }

    private static void requireInPool(Strategy strategy) throws IllegalStateException {
        if (!strategy.inPool) {
            throw new IllegalStateException("it is not in the pool");
        }
    }

    private Strategy strategyAt(int number) throws IndexOutOfBoundsException {
        if (number < 0 || number >= strategies.size()) {
            throw new IndexOutOfBoundsException("no such strategy");
        }
        return strategies.get(number);
    }

    // ---- storing

    private int numberOf(Program program) {
        for (int i = 0; i < strategies.size(); i++) {
            if (strategies.get(i).program.isSameAs(program)) {
                return i;
            }
        }
        return NONE;
    }

    private int keep(Program program, int firstParent, int secondParent) {
        int number = strategies.size();
        Strategy strategy = new Strategy(number, program.copy(), firstParent, secondParent);
        // Parents never change once stored, so the steps of the whole line are known here for good.
        strategy.stepsOfLine = program.stepBits | stepsOfLine(firstParent) | stepsOfLine(secondParent);
        for (int value = 0; value < VALUES; value++) {
            strategy.bids.put(value, program.bidFor(value, stack));
        }
        strategy.kind = kindOf(strategy);
        strategies.add(strategy);
        return number;
    }

    private int stepsOfLine(int number) {
        if (number < 0 || number >= strategies.size()) {
            return 0;
        }
        return strategies.get(number).stepsOfLine;
    }

    /** Strategies that do the same share the number of the first one of them. */
    private int kindOf(Strategy strategy) {
        for (int i = 0; i < strategies.size(); i++) {
            Strategy earlier = strategies.get(i);
            if (earlier.bids.isSameAs(strategy.bids)) {
                return earlier.kind;
            }
        }
        return strategy.number;
    }

    private static int bitOf(int step) {
        return 1 << step;
    }

    // ---- profits and worths

    private int poolSize() {
        int size = 0;
        for (int i = 0; i < strategies.size(); i++) {
            if (strategies.get(i).inPool) {
                size++;
            }
        }
        return size;
    }

    private static boolean wins(int number, int bid, int otherNumber, int otherBid) {
        return bid > otherBid || (bid == otherBid && number < otherNumber);
    }

    private static int paid(int auction, boolean isWinner, int bid, int otherBid) {
        if (auction == ALL) {
            return bid;
        }
        if (!isWinner) {
            return 0;
        }
        switch (auction) {
            case SECOND:
                return otherBid;
            case MIDDLE:
                return (bid + otherBid) / 2;
            default:
                return bid;
        }
    }

    private static int profitOf(int auction, boolean isWinner, int value, int bid, int otherBid) {
        return (isWinner ? value : 0) - paid(auction, isWinner, bid, otherBid);
    }

    private static int profitAgainst(int auction, Strategy own, Strategy rival, int value, int others) {
        int bid = own.bidFor(value);
        int otherBid = rival.bidFor(others);
        return profitOf(auction, wins(own.number, bid, rival.number, otherBid), value, bid, otherBid);
    }

    private int worthByStrategies(int auction, Strategy own) {
        int sum = 0;
        for (int i = 0; i < strategies.size(); i++) {
            Strategy rival = strategies.get(i);
            if (rival.inPool && rival.number != own.number) {
                sum += profitOfRounds(auction, own, rival);
            }
        }
        return sum;
    }

    private int profitOfRounds(int auction, Strategy own, Strategy rival) {
        int sum = 0;
        for (int pair = 0; pair < pairsTold; pair++) {
            int one = firstValues.at(pair);
            int two = secondValues.at(pair);
            sum += profitAgainst(auction, own, rival, one, two);
            sum += profitAgainst(auction, own, rival, two, one);
        }
        return sum;
    }

    private void layBids(int value, Row bids) {
        for (int i = 0; i < strategies.size(); i++) {
            Strategy strategy = strategies.get(i);
            if (strategy.inPool) {
                bids.put(i, strategy.bidFor(value));
            }
        }
    }

    private int profitInRows(int auction, int strategy, int value, Row ownBids, Row rivalBids) {
        int bid = ownBids.at(strategy);
        int sum = 0;
        for (int i = 0; i < strategies.size(); i++) {
            if (strategies.get(i).inPool && i != strategy) {
                int otherBid = rivalBids.at(i);
                sum += profitOf(auction, wins(strategy, bid, i, otherBid), value, bid, otherBid);
            }
        }
        return sum;
    }

    private void layWorths(int auction) {
        for (int i = 0; i < strategies.size(); i++) {
            Strategy strategy = strategies.get(i);
            if (strategy.inPool) {
                worths.put(i, worthByStrategies(auction, strategy));
            }
        }
    }

    /** By the worths that are laid; of several the lowest number. */
    private int strongestBut(int except) {
        int strongest = NONE;
        for (int i = 0; i < strategies.size(); i++) {
            if (strategies.get(i).inPool && i != except
                    && (strongest == NONE || worths.at(i) > worths.at(strongest))) {
                strongest = i;
            }
        }
        return strongest;
    }

    /** By the worths that are laid; of several the greatest number. */
    private int weakest() {
        int weakest = NONE;
        for (int i = 0; i < strategies.size(); i++) {
            if (strategies.get(i).inPool && (weakest == NONE || worths.at(i) <= worths.at(weakest))) {
                weakest = i;
            }
        }
        return weakest;
    }

    // ---- crossing

    private void cross(Program first, Program second) {
        child.empty();
        child.addPart(first, 0, (first.length() + 1) / 2);
        child.addPart(second, second.length() - second.length() / 2, second.length());
    }

    private int letChildJoin(int firstParent, int secondParent) {
        if (!child.isRight() || child.hasAnyOf(forbiddenSteps)) {
            return NONE;
        }
        int number = numberOf(child);
        if (number == NONE) {
            number = keep(child, firstParent, secondParent);
        }
        Strategy joining = strategyAt(number);
        if (joining.inPool) {
            return NONE;
        }
        joining.inPool = true;
        return number;
    }

    /** A row of numbers that looks at each index itself: no other class touches an array. */
    private static final class Row {
        private final int[] numbers;

        Row(int length) {
            numbers = new int[Math.max(0, length)];
        }

        int at(int index) {
            return index >= 0 && index < numbers.length ? numbers[index] : 0;
        }

        void put(int index, int number) {
            if (index >= 0 && index < numbers.length) {
                numbers[index] = number;
            }
        }

        boolean isSameAs(Row other) {
            if (numbers.length != other.numbers.length) {
                return false;
            }
            for (int i = 0; i < numbers.length; i++) {
                if (numbers[i] != other.at(i)) {
                    return false;
                }
            }
            return true;
        }
    }

    /** The numbers that a program works on, each kept within the bounds. */
    private static final class Stack {
        private final Row numbers = new Row(MOST_STEPS);
        private int depth = 0;

        void empty() {
            depth = 0;
        }

        void push(long number) {
            if (depth < MOST_STEPS) {
                numbers.put(depth, (int) Math.max(-GREATEST_NUMBER, Math.min(GREATEST_NUMBER, number)));
                depth++;
            }
        }

        int pop() {
            if (depth < 1) {
                return 0;
            }
            depth--;
            return numbers.at(depth);
        }
    }

    private static final class Program {
        private final Row steps = new Row(MOST_STEPS);
        private int length = 0;
        /** A bit for each step that the program has. */
        private int stepBits = 0;

        int length() {
            return length;
        }

        boolean isFull() {
            return length >= MOST_STEPS;
        }

        void empty() {
            length = 0;
            stepBits = 0;
        }

        void add(int step) {
            if (length < MOST_STEPS) {
                steps.put(length, step);
                length++;
                stepBits = stepBits | bitOf(step);
            }
        }

        void addPart(Program other, int from, int end) {
            for (int i = from; i < end; i++) {
                add(other.steps.at(i));
            }
        }

        Program copy() {
            Program copy = new Program();
            copy.addPart(this, 0, length);
            return copy;
        }

        boolean isSameAs(Program other) {
            if (length != other.length) {
                return false;
            }
            for (int i = 0; i < length; i++) {
                if (steps.at(i) != other.steps.at(i)) {
                    return false;
                }
            }
            return true;
        }

        boolean hasAnyOf(int bits) {
            return (stepBits & bits) != 0;
        }

        boolean isRight() {
            int depth = 0;
            for (int i = 0; i < length; i++) {
                if (steps.at(i) <= VALUE) {
                    depth++;
                } else if (depth < 2) {
                    return false;
                } else {
                    depth--;
                }
            }
            return depth == 1;
        }

        int bidFor(int value, Stack stack) {
            stack.empty();
            for (int i = 0; i < length; i++) {
                perform(steps.at(i), value, stack);
            }
            return Math.max(0, Math.min(GREATEST_BID, stack.pop()));
        }

        private static void perform(int step, int value, Stack stack) {
            if (step < VALUE) {
                stack.push(step);
            } else if (step == VALUE) {
                stack.push(value);
            } else {
                long y = stack.pop();
                long x = stack.pop();
                stack.push(resultOf(step, x, y));
            }
        }

        /** Over long, since TIMES goes beyond int before it is bounded. */
        private static long resultOf(int step, long x, long y) {
            switch (step) {
                case PLUS:
                    return x + y;
                case MINUS:
                    return x - y;
                case TIMES:
                    return x * y;
                case OVER:
                    return y == 0 ? 0 : x / y;
                case LESSER:
                    return Math.min(x, y);
                default:
                    return Math.max(x, y);
            }
        }
    }

    private static final class Strategy {
        private final int number;
        private final Program program;
        private final int firstParent;
        private final int secondParent;
        private final Row bids = new Row(VALUES);
        /** A bit for each step that the program, or one of those it comes from, has. */
        private int stepsOfLine = 0;
        private int kind = NONE;
        private boolean inPool = false;

        Strategy(int number, Program program, int firstParent, int secondParent) {
            this.number = number;
            this.program = program;
            this.firstParent = firstParent;
            this.secondParent = secondParent;
        }

        int bidFor(int value) {
            return bids.at(value);
        }
    }
}
