import java.util.Arrays;

/** THE RULE and THE PLAN, part by part, on few triples that are worked out by hand. */
public final class RuleTest {
    private static final int BAD = -1;

    private RuleTest() {
    }

    public static void main(String[] args) {
        triplesThatHaveItsNumbers();
        variablesAreNotLookedAt();
        differentNumbersAtEachPlace();
        differentNumbersInTheseN();
        dividedByAllOfThem();
        sizeAfterTheFirst();
        sizeTimesTheEstimate();
        knownFromAllBefore();
        notKnownFromLater();
        costIsTheSumOfSizes();
        noOrderCostsLess();
        planIsOfTheRuleNotOfRows();
        Due.end();
    }

    /** All triples with as many different numbers at each place, from 10, 20 and 30 on. */
    private static void box(Counted x, int first, int second, int third) {
        for (int i = 0; i < first * second * third; i++) {
            x.insert(10 + i % first, 20 + i / first % second, 30 + i / first / second);
        }
    }

    private static void triplesThatHaveItsNumbers() {
        int[][] patterns = {{-1, -2, -3}, {11, -2, -3}, {-1, 21, -3}, {11, 21, -3}, {-1, -2, 31}, {11, -2, 31},
            {-1, 21, 31}, {11, 21, 31}, {9, -2, -3}, {-1, 23, -3}, {-1, -2, 34}, {11, 21, 34}, {21, 11, -3}};
        int[] due = {24, 12, 8, 4, 6, 3, 2, 1, 0, 0, 0, 0, 0};
        for (int i = 0; i < patterns.length; i++) {
            int[] items = patterns[i];
            new Edge("Terms, \"N triples have its numbers\", " + Arrays.toString(items), x -> {
                box(x, 2, 3, 4);
                x.pattern(items[0], items[1], items[2]);
            })
                .due("estimate(0, 0)", x -> x.estimate(0, 0), due[i])
                .due("solutions()", Counted::solutions, due[i]);
        }
    }

    /** No triple of the box has a number twice, so none is such a pattern; it has N triples all the same. */
    private static void variablesAreNotLookedAt() {
        int[][] patterns = {{-1, -1, -2}, {-1, -2, -1}, {-2, -1, -1}, {-1, -1, -1}, {-1, -1, 31}, {-1, 21, -1}, {11, -1, -1}};
        int[] due = {24, 24, 24, 24, 6, 8, 12};
        for (int i = 0; i < patterns.length; i++) {
            int[] items = patterns[i];
            new Edge("Terms, \"variables not looked at\", " + Arrays.toString(items), x -> {
                box(x, 2, 3, 4);
                x.pattern(items[0], items[1], items[2]);
                x.use(0);
            })
                .due("estimate(0, 0)", x -> x.estimate(0, 0), due[i])
                .due("size(1)", x -> x.size(1), due[i])
                .due("cost()", Counted::cost, due[i])
                .due("rows()", Counted::rows, 0)
                .due("solutions()", Counted::solutions, 0);
        }
    }

    private static void differentNumbersAtEachPlace() {
        int[] due = {24, 12, 8, 4, 6, 3, 2, 1};
        for (int known = 0; known < due.length; known++) {
            int bits = known;
            new Edge("Terms, \"for each place (0, 1, 2) where a known variable stands\"", x -> {
                box(x, 2, 3, 4);
                x.pattern(-1, -2, -3);
            }).due("estimate(0, " + known + ")", x -> x.estimate(0, bits), due[known]);
        }
        new Edge("Terms, \"where a known variable stands\", places turned about", x -> {
            box(x, 2, 3, 4);
            x.pattern(-3, -1, -2);
        })
            .due("estimate(0, 0b001)", x -> x.estimate(0, 0b001), 8)
            .due("estimate(0, 0b010)", x -> x.estimate(0, 0b010), 6)
            .due("estimate(0, 0b100)", x -> x.estimate(0, 0b100), 12);
    }

    /** Other triples, which have not the pattern's numbers, have far more different ones at each place. */
    private static void boxAmongOthers(Counted x) {
        box(x, 2, 3, 4);
        for (int i = 0; i < 64; i++) {
            x.insert(i, 0, i);
            x.insert(0, i, i);
            x.insert(i, i, 0);
        }
    }

    private static void differentNumbersInTheseN() {
        int[][] patterns = {{11, -1, -2}, {-1, 21, -2}, {-1, -2, 31}};
        int[][] due = {{12, 4, 3, 1}, {8, 4, 2, 1}, {6, 3, 2, 1}};
        for (int i = 0; i < patterns.length; i++) {
            int[] items = patterns[i];
            Edge edge = new Edge("Terms, \"different numbers stand there in these N\", " + Arrays.toString(items), x -> {
                boxAmongOthers(x);
                // Those that have the number of one of the patterns are no others.
                x.remove(11, 0, 11);
                x.remove(11, 11, 0);
                x.remove(0, 21, 21);
                x.remove(21, 21, 0);
                x.remove(31, 0, 31);
                x.remove(0, 31, 31);
                x.pattern(items[0], items[1], items[2]);
            });
            for (int known = 0; known < 4; known++) {
                int bits = known;
                edge.due("estimate(0, " + known + ")", x -> x.estimate(0, bits), due[i][known]);
            }
        }
    }

    private static void dividedByAllOfThem() {
        int[][] patterns = {{-5, -5, -2}, {-5, -2, -5}, {-2, -5, -5}, {-5, -5, -5}};
        int[] due = {4, 3, 2, 1};
        for (int i = 0; i < patterns.length; i++) {
            int[] items = patterns[i];
            new Edge("Terms, \"N divided by all these D\", " + Arrays.toString(items), x -> {
                box(x, 2, 3, 4);
                x.pattern(items[0], items[1], items[2]);
            }).due("estimate(0, 0b10000)", x -> x.estimate(0, 0b10000), due[i]);
        }
    }

    private static void sizeAfterTheFirst() {
        int[][] patterns = {{-1, -2, -3}, {-1, -1, -1}, {11, -1, -1}, {-8, 21, 31}, {11, 21, 31}, {11, 21, 40}};
        int[] due = {24, 24, 12, 2, 1, 0};
        for (int i = 0; i < patterns.length; i++) {
            int used = i;
            Edge edge = new Edge("Terms, \"the SIZE after the first one is its estimate (nothing is known)\"", x -> {
                box(x, 2, 3, 4);
                for (int[] items : patterns) {
                    x.pattern(items[0], items[1], items[2]);
                }
                x.use(used);
            });
            edge.due("size(1) of " + Arrays.toString(patterns[i]), x -> x.size(1), due[i]);
        }
    }

    /** 1 stands before 2 and 3, 2 before 4, 5 and 6, and so on: a tree by number 0. */
    private static void tree(Counted x) {
        int[][] edges = {{1, 2}, {1, 3}, {2, 4}, {2, 5}, {2, 6}, {3, 7}, {7, 8}};
        for (int[] edge : edges) {
            x.insert(edge[0], 0, edge[1]);
        }
        x.pattern(-1, 0, -2);
        x.pattern(-2, 0, -3);
        x.pattern(-3, 0, -4);
    }

    /** Seven triples, four different numbers at place 0 and seven at place 2. */
    private static void sizeTimesTheEstimate() {
        new Edge("Terms, \"the size before it times its estimate\"", x -> {
            tree(x);
            Build.useAll(x, 0, 1, 2);
        })
            .due("size(1)", x -> x.size(1), 7)
            .due("size(2), by 7 / 4", x -> x.size(2), 7 * 2)
            .due("size(3), by 7 / 4", x -> x.size(3), 7 * 2 * 2);
        new Edge("Terms, \"the size before it times its estimate\", from the other end", x -> {
            tree(x);
            Build.useAll(x, 2, 1, 0);
        })
            .due("size(2), by 7 / 7", x -> x.size(2), 7)
            .due("size(3), by 7 / 7", x -> x.size(3), 7);
        new Edge("Terms, \"the size before it times its estimate\", from both ends", x -> {
            tree(x);
            Build.useAll(x, 0, 2, 1);
        })
            .due("size(2), by 7", x -> x.size(2), 49)
            .due("size(3), by 7 / (4 * 7)", x -> x.size(3), 49);
    }

    /** Pattern 0 makes -1 known and pattern 1 makes -2 known; pattern 2 has both; pattern 3 has neither. */
    private static void twoMeet(Counted x) {
        for (int i = 0; i < 6; i++) {
            x.insert(i % 2, 2, i / 2);
        }
        x.insert(0, 0, 40);
        x.insert(1, 0, 41);
        x.insert(40, 1, 0);
        x.insert(41, 1, 1);
        x.insert(42, 1, 2);
        x.pattern(-1, 0, -3);
        x.pattern(-4, 1, -2);
        x.pattern(-1, 2, -2);
        x.pattern(-5, 0, -6);
    }

    private static void knownFromAllBefore() {
        String sentence = "Terms, \"the variables of those before it being known\"";
        new Edge(sentence + ", of all of them", x -> {
            twoMeet(x);
            Build.useAll(x, 0, 1, 2);
        }).due("size(3), by 6 / (2 * 3)", x -> x.size(3), 2 * 3);
        new Edge(sentence + ", of all of them, whatever stands between", x -> {
            twoMeet(x);
            Build.useAll(x, 0, 1, 3, 2);
        })
            .due("size(3)", x -> x.size(3), 2 * 3 * 2)
            .due("size(4), by 6 / (2 * 3)", x -> x.size(4), 2 * 3 * 2);
        new Edge(sentence + ", of the one alone that is before", x -> {
            twoMeet(x);
            Build.useAll(x, 0, 2, 1);
        })
            .due("size(2), by 6 / 2", x -> x.size(2), 2 * 3)
            .due("size(3), by 3 / 3", x -> x.size(3), 2 * 3);
    }

    private static void notKnownFromLater() {
        String sentence = "Terms, \"the variables of those before it being known\", not of it or of later ones";
        new Edge(sentence, x -> {
            twoMeet(x);
            Build.useAll(x, 2, 3, 1, 0);
        })
            .due("size(1)", x -> x.size(1), 6)
            .due("size(2), by 2", x -> x.size(2), 12)
            .due("size(3), by 3 / 3", x -> x.size(3), 12)
            .due("size(4), by 2 / 2", x -> x.size(4), 12)
            .due("size(5)", x -> x.size(5), BAD);
        new Edge(sentence + ", nor of an order that was dropped", x -> {
            twoMeet(x);
            Build.useAll(x, 0, 1);
            x.drop();
            x.use(2);
        }).due("size(1)", x -> x.size(1), 6);
    }

    private static void costIsTheSumOfSizes() {
        new Edge("Terms, \"the COST of an order is the sum of all sizes\"", RuleTest::tree)
            .due("cost() of 2, 1, 0", Counted::cost, 7 + 7 + 7);
        // 0, 2, 1 costs 2 + 6 + 6 before 3 comes; by 3, 0, 2, 1 it is 2 + 4 + 12 + 12, and so on.
        new Edge("Terms, \"the COST of an order is the sum of all sizes\"", RuleTest::twoMeet)
            .due("cost() of 0, 2, 1, 3", Counted::cost, 2 + 6 + 6 + 12);
        new Edge("Terms, \"the COST of an order is the sum of all sizes\", not only the last one", x -> {
            // 0, 1 has the sizes 3 and 3; 1, 0 has 1 and 3.
            Build.triplesWith(x, 0, 3);
            Build.triplesWith(x, 1, 1);
            x.pattern(-1, 0, -2);
            x.pattern(-3, 1, -4);
        })
            .due("cost()", Counted::cost, 1 + 3)
            .due("plan(0)", x -> x.plan(0), 1);
    }

    /** By size() of every order: the plan is the first one of the least sum. */
    private static void noOrderCostsLess() {
        Edge.Run[] states = {RuleTest::tree, RuleTest::twoMeet, x -> Build.product(x, 3, 2, 3, 2), x -> {
            box(x, 2, 3, 4);
            x.pattern(-1, -2, 31);
            x.pattern(-2, 21, -1);
            x.pattern(11, -3, -4);
            x.pattern(-4, -3, -1);
        }};
        for (int i = 0; i < states.length; i++) {
            cheapestOf("Terms, \"THE PLAN is the order of the least cost\", state " + i, states[i]);
        }
    }

    private static void cheapestOf(String name, Edge.Run state) {
        Counted x = new Counted();
        state.on(x);
        int[] best = {};
        long least = Long.MAX_VALUE;
        for (int[] order : ordersOf(patternsOf(state))) {
            x.drop();
            Build.useAll(x, order);
            long cost = 0;
            for (int k = 1; k <= order.length; k++) {
                cost += x.size(k);
            }
            if (cost < least) {
                least = cost;
                best = order;
            }
        }
        Due.is(name + ": cost()", x.cost(), least);
        for (int k = 0; k < best.length; k++) {
            Due.is(name + ": plan(" + k + ")", x.plan(k), best[k]);
        }
        Due.holds(name + ": within 512 calls", x.calls() <= Counted.MOST_CALLS);
    }

    private static int patternsOf(Edge.Run state) {
        Counted x = new Counted();
        state.on(x);
        return x.clear();
    }

    /** All orders of so many patterns, those with the least numbers first. */
    private static int[][] ordersOf(int count) {
        if (count == 0) {
            return new int[][] {{}};
        }
        int[][] shorter = ordersOf(count - 1);
        int[][] orders = new int[count * shorter.length][count];
        for (int i = 0; i < orders.length; i++) {
            int first = i / shorter.length;
            orders[i][0] = first;
            for (int k = 1; k < count; k++) {
                int number = shorter[i % shorter.length][k - 1];
                orders[i][k] = number < first ? number : number + 1;
            }
        }
        return orders;
    }

    /** Pattern 0 has one row in truth but three by the rule, pattern 1 two by both: the rule decides. */
    private static void planIsOfTheRuleNotOfRows() {
        new Edge("Terms, \"THE PLAN\" goes by the rule, not by rows", x -> {
            x.insert(5, 0, 5);
            x.insert(6, 0, 7);
            x.insert(7, 0, 8);
            x.insert(1, 1, 1);
            x.insert(2, 1, 1);
            x.pattern(-1, 0, -1);
            x.pattern(-2, 1, -3);
        })
            .due("plan(0)", x -> x.plan(0), 1)
            .due("plan(1)", x -> x.plan(1), 0)
            .due("cost()", Counted::cost, 2 + 6)
            .due("solutions()", Counted::solutions, 2);
    }
}
