import java.math.BigInteger;
import java.util.ArrayList;
import java.util.Arrays;
import java.util.List;
import java.util.TreeSet;

/**
 * Long runs of calls, made by a counting generator that always gives the same ones, against a model that is
 * written in another way than the class: without bids kept, with lines followed parent by parent, and with the
 * order of evolving by sorting.
 */
public final class ModelTest {
    private static final int RUNS = 1500;
    private static final int CALLS = 512;

    private static long seed;
    private static int children;
    private static int linesLeft;

    public static void main(String[] args) {
        Checks checks = new Checks();
        for (int run = 0; run < RUNS; run++) {
            seed = 7919L * run + 17;
            // one run in a hundred goes on far beyond the calls that are promised: it must answer all the same
            oneRun(checks, run, run % 100 == 99 ? 4 * CALLS : CALLS);
        }
        checks.isTrue(children + " children joined", children > RUNS);
        checks.isTrue(linesLeft + " left for a step that they do not have themselves", linesLeft > RUNS / 20);
        checks.end();
    }

    private static int below(int bound) {
        seed = seed * 6364136223846793005L + 1442695040888963407L;
        return (int) ((seed >>> 33) % bound);
    }

    private static void oneRun(Checks checks, int run, int calls) {
        Bidwhistle game = new Bidwhistle();
        Model model = new Model();
        for (int i = 0; i < calls; i++) {
            // stores more at first, so that the later calls have strategies to work on
            int[] call = i < calls / 4 && below(3) == 0 ? new int[] {2} : nextCall(model);
            String due = model.answer(call);
            String got = answer(game, call);
            checks.isTrue("run " + run + ", call " + i + " " + Arrays.toString(call) + " answered " + got + ", due is "
                    + due, got.equals(due));
            if (!got.equals(due)) {
                return;
            }
        }
        children += model.children;
        linesLeft += model.linesLeft;
    }

    private static int[] nextCall(Model model) {
        int kind = below(100);
        if (kind < 30) {
            return new int[] {0, step(model)};
        }
        if (kind < 40) {
            return new int[] {model.draft.size() > 6 ? 1 + below(2) : 2};
        }
        if (kind < 58) {
            return new int[] {7, strategy(model)};
        }
        if (kind < 66) {
            return new int[] {18, auction()};
        }
        int method = below(19);
        switch (method) {
            case 0:
                return new int[] {0, step(model)};
            case 4:
                return new int[] {4, strategy(model), value()};
            case 6:
                return new int[] {6, strategy(model), below(2)};
            case 5:
            case 7:
            case 8:
            case 9:
                return new int[] {method, strategy(model)};
            case 10:
                return new int[] {below(3) == 0 ? 10 : 11, anyStep()};
            case 11:
                return new int[] {11, anyStep()};
            case 12:
                return new int[] {12, value(), value()};
            case 13:
                return new int[] {below(4) == 0 ? 13 : 3};
            case 14:
                return new int[] {14, auction(), strategy(model), strategy(model), value(), value()};
            case 15:
            case 16:
                return new int[] {method, auction(), strategy(model)};
            case 17:
            case 18:
                return new int[] {method, auction()};
            default:
                return new int[] {method};
        }
    }

    private static int extreme() {
        int[] extremes = {Integer.MIN_VALUE, -1000, -2, -1, 4, 17, 20, 31, 32, 100, 1000, Integer.MAX_VALUE};
        return extremes[below(extremes.length)];
    }

    /** Mostly steps that leave the draft on its way to a right program, with few numbers, so that children meet. */
    private static int step(Model model) {
        if (below(40) == 0) {
            return below(2) == 0 ? extreme() : below(17);
        }
        int depth = model.depthOfDraft();
        if (depth < 2 || (depth < 3 && below(3) == 0)) {
            return below(2) == 0 ? Bidwhistle.VALUE : below(5);
        }
        return Bidwhistle.PLUS + below(6);
    }

    private static int anyStep() {
        return below(20) == 0 ? extreme() : below(17);
    }

    private static int strategy(Model model) {
        return below(25) == 0 ? extreme() : below(model.programs.size() + 1);
    }

    private static int value() {
        int kind = below(25);
        return kind == 0 ? extreme() : kind < 4 ? 99 * below(2) : below(100);
    }

    private static int auction() {
        return below(25) == 0 ? extreme() : below(4);
    }

    private static String answer(Bidwhistle game, int[] c) {
        try {
            switch (c[0]) {
                case 0: return "" + game.step(c[1]);
                case 1: return "" + game.scrap();
                case 2: return "" + game.store();
                case 3: return "" + game.stored();
                case 4: return "" + game.bid(c[1], c[2]);
                case 5: return "" + game.alike(c[1]);
                case 6: return "" + game.parent(c[1], c[2] == 1);
                case 7: return "" + game.join(c[1]);
                case 8: return "" + game.leave(c[1]);
                case 9: return "" + game.isIn(c[1]);
                case 10: return "" + game.forbid(c[1]);
                case 11: return "" + game.allow(c[1]);
                case 12: return "" + game.tell(c[1], c[2]);
                case 13: return "" + game.forget();
                case 14: return "" + game.profit(c[1], c[2], c[3], c[4], c[5]);
                case 15: return "" + game.worth(c[1], c[2]);
                case 16: return "" + game.worthByValues(c[1], c[2]);
                case 17: return "" + game.best(c[1]);
                default: return "" + game.evolve(c[1]);
            }
        } catch (RuntimeException thrown) {
            return (Checks.isOfItsOwn(thrown) ? "throws." : "falls.") + thrown.getClass().getSimpleName();
        }
    }

    private static final class Model {
        private static final String INDEX = "throws.IndexOutOfBoundsException";
        private static final String ARGUMENT = "throws.IllegalArgumentException";
        private static final String STATE = "throws.IllegalStateException";

        private final List<Integer> draft = new ArrayList<Integer>();
        private final List<List<Integer>> programs = new ArrayList<List<Integer>>();
        private final List<int[]> parents = new ArrayList<int[]>();
        private final TreeSet<Integer> pool = new TreeSet<Integer>();
        private final TreeSet<Integer> forbidden = new TreeSet<Integer>();
        private final List<int[]> pairs = new ArrayList<int[]>();
        private int children = 0;
        private int linesLeft = 0;

        int depthOfDraft() {
            int depth = 0;
            for (int step : draft) {
                depth += step <= 10 ? 1 : -1;
            }
            return depth;
        }

        String answer(int[] c) {
            switch (c[0]) {
                case 0: return step(c[1]);
                case 1: return scrap();
                case 2: return store();
                case 3: return "" + programs.size();
                case 4: return !is(c[1]) ? INDEX : !isValue(c[2]) ? ARGUMENT : "" + bid(c[1], c[2]);
                case 5: return !is(c[1]) ? INDEX : "" + alike(c[1]);
                case 6: return !is(c[1]) ? INDEX : "" + parents.get(c[1])[1 - c[2]];
                case 7: return join(c[1]);
                case 8: return !is(c[1]) ? INDEX : !pool.remove(c[1]) ? STATE : "" + pool.size();
                case 9: return !is(c[1]) ? INDEX : "" + pool.contains(c[1]);
                case 10: return forbid(c[1]);
                case 11: return !isStep(c[1]) ? ARGUMENT : "" + forbidden.remove(c[1]);
                case 12: return tell(c[1], c[2]);
                case 13: return forget();
                case 14: return profit(c[1], c[2], c[3], c[4], c[5]);
                case 15:
                case 16: return !is(c[2]) ? INDEX : !isAuction(c[1]) ? ARGUMENT : !pool.contains(c[2]) ? STATE
                        : "" + worth(c[1], c[2]);
                case 17: return !isAuction(c[1]) ? ARGUMENT : pool.isEmpty() ? "-1" : "" + order(c[1]).get(0);
                default: return evolve(c[1]);
            }
        }

        boolean is(int strategy) {
            return strategy >= 0 && strategy < programs.size();
        }

        static boolean isValue(int value) {
            return value >= 0 && value <= 99;
        }

        static boolean isStep(int step) {
            return step >= 0 && step <= 16;
        }

        static boolean isAuction(int auction) {
            return auction >= 0 && auction <= 3;
        }

        String step(int step) {
            if (!isStep(step)) {
                return ARGUMENT;
            }
            if (draft.size() == 7) {
                return STATE;
            }
            draft.add(step);
            return "" + draft.size();
        }

        String scrap() {
            int size = draft.size();
            draft.clear();
            return "" + size;
        }

        String store() {
            int known = programs.indexOf(draft);
            if (resultOf(draft, 1) == null || (known < 0 && programs.size() == 20)) {
                return STATE;
            }
            if (known < 0) {
                known = programs.size();
                programs.add(new ArrayList<Integer>(draft));
                parents.add(new int[] {-1, -1});
            }
            draft.clear();
            return "" + known;
        }

        /** The number that is left; null if the program is not right. */
        static BigInteger resultOf(List<Integer> program, int value) {
            List<BigInteger> stack = new ArrayList<BigInteger>();
            for (int step : program) {
                if (step < 10) {
                    stack.add(BigInteger.valueOf(step));
                } else if (step == 10) {
                    stack.add(BigInteger.valueOf(value));
                } else {
                    if (stack.size() < 2) {
                        return null;
                    }
                    BigInteger y = stack.remove(stack.size() - 1);
                    BigInteger x = stack.remove(stack.size() - 1);
                    BigInteger result = step == 11 ? x.add(y) : step == 12 ? x.subtract(y) : step == 13 ? x.multiply(y)
                            : step == 14 ? (y.signum() == 0 ? y : x.divide(y)) : step == 15 ? x.min(y) : x.max(y);
                    BigInteger most = BigInteger.valueOf(100000);
                    stack.add(result.min(most).max(most.negate()));
                }
            }
            return stack.size() == 1 ? stack.get(0) : null;
        }

        int bid(int strategy, int value) {
            return Math.max(0, Math.min(999, resultOf(programs.get(strategy), value).intValue()));
        }

        int alike(int strategy) {
            int count = 0;
            for (int other = 0; other < programs.size(); other++) {
                int value = 0;
                while (value < 100 && bid(strategy, value) == bid(other, value)) {
                    value++;
                }
                count += value == 100 ? 1 : 0;
            }
            return count;
        }

        boolean hasForbidden(List<Integer> program) {
            for (int step : program) {
                if (forbidden.contains(step)) {
                    return true;
                }
            }
            return false;
        }

        String join(int strategy) {
            if (!is(strategy)) {
                return INDEX;
            }
            if (pool.contains(strategy) || hasForbidden(programs.get(strategy)) || pool.size() == 8) {
                return STATE;
            }
            pool.add(strategy);
            return "" + pool.size();
        }

        boolean isOfLine(int strategy, int step) {
            if (strategy < 0) {
                return false;
            }
            return programs.get(strategy).contains(step) || isOfLine(parents.get(strategy)[0], step)
                    || isOfLine(parents.get(strategy)[1], step);
        }

        String forbid(int step) {
            if (!isStep(step)) {
                return ARGUMENT;
            }
            forbidden.add(step);
            int leaving = 0;
            for (int strategy : new ArrayList<Integer>(pool)) {
                if (isOfLine(strategy, step)) {
                    pool.remove(strategy);
                    leaving++;
                    linesLeft += programs.get(strategy).contains(step) ? 0 : 1;
                }
            }
            return "" + leaving;
        }

        String tell(int one, int two) {
            if (!isValue(one) || !isValue(two)) {
                return ARGUMENT;
            }
            if (pairs.size() == 6) {
                return STATE;
            }
            pairs.add(new int[] {one, two});
            return "" + pairs.size();
        }

        String forget() {
            int size = pairs.size();
            pairs.clear();
            return "" + size;
        }

        String profit(int auction, int strategy, int other, int value, int others) {
            if (!is(strategy) || !is(other)) {
                return INDEX;
            }
            if (strategy == other || !isAuction(auction) || !isValue(value) || !isValue(others)) {
                return ARGUMENT;
            }
            return "" + gain(auction, strategy, other, value, others);
        }

        int gain(int auction, int strategy, int other, int value, int others) {
            int x = bid(strategy, value);
            int y = bid(other, others);
            boolean wins = x == y ? strategy < other : x > y;
            int[] paid = {x, y, Math.floorDiv(x + y, 2), x};
            return wins ? value - paid[auction] : auction == 3 ? -x : 0;
        }

        int worth(int auction, int strategy) {
            int sum = 0;
            for (int[] pair : pairs) {
                for (int other : pool) {
                    if (other != strategy) {
                        sum += gain(auction, strategy, other, pair[0], pair[1]);
                        sum += gain(auction, strategy, other, pair[1], pair[0]);
                    }
                }
            }
            return sum;
        }

        /** The pool by its worths, the greatest first, of the same ones the lowest number first. */
        List<Integer> order(int auction) {
            int[] worths = new int[20];
            for (int strategy : pool) {
                worths[strategy] = worth(auction, strategy);
            }
            List<Integer> order = new ArrayList<Integer>(pool);
            order.sort((a, b) -> worths[a] != worths[b] ? Integer.compare(worths[b], worths[a]) : Integer.compare(a, b));
            return order;
        }

        String evolve(int auction) {
            if (!isAuction(auction)) {
                return ARGUMENT;
            }
            if (pool.size() < 3 || programs.size() == 20) {
                return STATE;
            }
            List<Integer> order = order(auction);
            pool.remove(order.get(order.size() - 1));
            List<Integer> one = programs.get(order.get(0));
            List<Integer> two = programs.get(order.get(1));
            List<Integer> child = new ArrayList<Integer>(one.subList(0, (one.size() + 1) / 2));
            child.addAll(two.subList((two.size() + 1) / 2, two.size()));
            int number = programs.indexOf(child);
            if (resultOf(child, 1) == null || hasForbidden(child) || pool.contains(number)) {
                return "-1";
            }
            if (number < 0) {
                number = programs.size();
                programs.add(child);
                parents.add(new int[] {order.get(0), order.get(1)});
            }
            pool.add(number);
            children++;
            return "" + number;
        }
    }
}
