/** The boundaries that the document's terms name. */
public final class TermsEdgesTest {
    private static final int BAD = -1;
    private static final int FULL = -3;
    private static final int MIN = Integer.MIN_VALUE;
    private static final int MAX = Integer.MAX_VALUE;
    private static final long MOST = 1_000_000_000_000L;

    private TermsEdgesTest() {
    }

    public static void main(String[] args) {
        numbersOfTriples();
        numbersDoNotRunOver();
        numbersAreKept();
        atMost640();
        noneTwice();
        atMostSixPatterns();
        numberedFromZero();
        itemsOfPatterns();
        solutionOfNoPatterns();
        roundedUp();
        roundedUpOverSeveralPlaces();
        zeroWhenNIsZero();
        sizesAtMost();
        sizesOnceAtMost();
        costAtMost();
        costOfExactlyTheMost();
        planOfCostsAtMost();
        leastFirstNumber();
        leastSecondNumber();
        Due.end();
    }

    private static void numbersOfTriples() {
        new Edge("Terms, \"three numbers 0 .. 63\"")
            .dueAtEachPlace("insert", Counted::insert, 5, 1, 0, 1, 62, 63)
            .dueAtEachPlace("insert", Counted::insert, 5, BAD, -1, 64, -64, 128, MIN, MIN + 5, MAX, MAX - 63);
        new Edge("Terms, \"three numbers 0 .. 63\", of triples that go", x -> {
            x.insert(0, 5, 5);
            x.insert(5, 63, 5);
            x.insert(5, 5, 63);
        })
            .due("remove(0, 5, 5)", x -> x.remove(0, 5, 5), 1)
            .due("remove(5, 63, 5)", x -> x.remove(5, 63, 5), 1)
            .due("remove(5, 5, 63)", x -> x.remove(5, 5, 63), 1)
            .dueAtEachPlace("remove", Counted::remove, 5, BAD, -1, 64, -64, 128, MIN, MIN + 5, MAX, MAX - 63);
    }

    /** Numbers beyond the bounds which would make a triple that is there if places ran over into one another. */
    private static void numbersDoNotRunOver() {
        int[][] wrong = {{0, 64, 0}, {1, -64, 0}, {0, 63, 64}, {1, -1, 64}, {1, 1, -64}, {0, 0, 4096}, {1, 0, MIN},
            {MIN, MIN, MIN}, {MAX, MAX, MAX}, {MIN, 0, MAX}, {65, 0, 0}, {1 << 26, 0, 0}, {1, 1 << 20, 1 << 26}};
        for (int[] each : wrong) {
            String items = "(" + each[0] + ", " + each[1] + ", " + each[2] + ")";
            new Edge("Terms, \"three numbers 0 .. 63\", not others", x -> {
                x.insert(0, 0, 0);
                x.insert(1, 0, 0);
            })
                .due("insert" + items, x -> x.insert(each[0], each[1], each[2]), BAD)
                .due("remove" + items, x -> x.remove(each[0], each[1], each[2]), BAD);
        }
    }

    private static void numbersAreKept() {
        Edge kept = new Edge("Terms, \"three numbers 0 .. 63\", kept as they are", x -> {
            x.insert(63, 0, 63);
            x.insert(0, 63, 0);
            x.insert(63, 63, 63);
            x.insert(0, 0, 0);
            x.pattern(-1, -2, -3);
            x.solutions();
        });
        int[][] sorted = {{0, 0, 0}, {0, 63, 0}, {63, 0, 63}, {63, 63, 63}};
        for (int i = 0; i < sorted.length; i++) {
            for (int place = 0; place < 3; place++) {
                int solution = i;
                int variable = -1 - place;
                kept.due("value(" + i + ", " + variable + ")", x -> x.value(solution, variable), sorted[i][place]);
            }
        }
    }

    /** No object comes so far in 512 calls, and what later ones answer is free; the bound is kept all the same. */
    private static void atMost640() {
        JoinPlanner x = new JoinPlanner();
        for (int i = 0; i < 640; i++) {
            Due.is("Terms, \"at most 640\": insert " + i, x.insert(i % 64, i / 64, i % 3), 1);
            Due.is("Terms, \"at most 640\": triples() after insert " + i, x.triples(), i + 1);
        }
        Due.is("Terms, \"at most 640\": insert(63, 63, 63)", x.insert(63, 63, 63), FULL);
        Due.is("Terms, \"at most 640\": insert(0, 0, 1)", x.insert(0, 0, 1), FULL);
        Due.is("Terms, \"at most 640\": insert(0, 0, 0), which is there", x.insert(0, 0, 0), 0);
        Due.is("Terms, \"at most 640\": insert(0, 0, MIN)", x.insert(0, 0, MIN), BAD);
        Due.is("Terms, \"at most 640\": insert(MAX, 0, 0)", x.insert(MAX, 0, 0), BAD);
        Due.is("Terms, \"at most 640\": triples() when full", x.triples(), 640);
        Due.is("Terms, \"at most 640\": remove(63, 63, 63), refused before", x.remove(63, 63, 63), 0);
        Due.is("Terms, \"at most 640\": remove(0, 0, 0)", x.remove(0, 0, 0), 1);
        Due.is("Terms, \"at most 640\": insert(63, 63, 63) after it", x.insert(63, 63, 63), 1);
        Due.is("Terms, \"at most 640\": insert(0, 0, 0) after it", x.insert(0, 0, 0), FULL);
        x.pattern(-1, -2, -3);
        Due.is("Terms, \"at most 640\": estimate(0, 0)", x.estimate(0, 0), 640);
        Due.is("Terms, \"at most 640\": solutions()", x.solutions(), 640);
        Due.is("Terms, \"at most 640\": value(639, -3)", x.value(639, -3), 63);
    }

    private static void noneTwice() {
        new Edge("Terms, \"none twice\"", x -> {
            x.insert(7, 8, 9);
            x.insert(7, 8, 9);
            x.insert(7, 8, 9);
            x.pattern(-1, -2, -3);
            x.use(0);
        })
            .due("insert(7, 8, 9)", x -> x.insert(7, 8, 9), 0)
            .due("triples()", Counted::triples, 1)
            .due("estimate(0, 0)", x -> x.estimate(0, 0), 1)
            .due("rows()", Counted::rows, 1)
            .due("solutions()", Counted::solutions, 1)
            .due("remove(7, 8, 9)", x -> x.remove(7, 8, 9), 1);
        new Edge("Terms, \"none twice\", once gone", x -> {
            x.insert(7, 8, 9);
            x.insert(7, 8, 9);
            x.remove(7, 8, 9);
        })
            .due("remove(7, 8, 9)", x -> x.remove(7, 8, 9), 0)
            .due("triples()", Counted::triples, 0)
            .due("insert(7, 8, 9)", x -> x.insert(7, 8, 9), 1);
        new Edge("Terms, \"none twice\", but the same numbers elsewhere are another", x -> {
            x.insert(7, 8, 9);
            x.insert(7, 9, 8);
            x.insert(8, 7, 9);
            x.insert(8, 9, 7);
            x.insert(9, 7, 8);
        })
            .due("insert(9, 8, 7)", x -> x.insert(9, 8, 7), 1)
            .due("triples()", Counted::triples, 5);
    }

    private static void atMostSixPatterns() {
        new Edge("Terms, \"at most 6\", with five", x -> Build.patternsOf(x, 0, 1, 2, 3, 4))
            .due("pattern(-1, -2, -3)", x -> x.pattern(-1, -2, -3), 5)
            .due("pattern(0, 0, 0)", x -> x.pattern(0, 0, 0), 5);
        new Edge("Terms, \"at most 6\", with six", x -> Build.patternsOf(x, 0, 1, 2, 3, 4, 5))
            .due("pattern(-1, -2, -3)", x -> x.pattern(-1, -2, -3), FULL)
            .due("pattern(0, 0, 0)", x -> x.pattern(0, 0, 0), FULL)
            .due("pattern(63, -8, 63)", x -> x.pattern(63, -8, 63), FULL)
            .due("a pattern that is there", x -> x.pattern(-1, 0, -1), FULL)
            .due("clear()", Counted::clear, 6);
        new Edge("Terms, \"at most 6\", of six the last one is a pattern as others are", x -> {
            x.insert(1, 2, 3);
            Build.patternsOf(x, 0, 1, 2, 3, 4);
            x.pattern(-7, 2, -8);
        })
            .due("estimate(5, 0)", x -> x.estimate(5, 0), 1)
            .due("use(5)", x -> x.use(5), 1)
            .due("plan(5)", x -> x.plan(5), 5);
        new Edge("Terms, \"at most 6\", after FULL and clear()", x -> {
            Build.patternsOf(x, 0, 1, 2, 3, 4, 5, 6);
            x.clear();
        }).due("pattern(-1, -2, -3)", x -> x.pattern(-1, -2, -3), 0);
    }

    private static void numberedFromZero() {
        for (int count = 0; count < 6; count++) {
            int[] parts = new int[count];
            new Edge("Terms, \"numbered from 0\", with " + count, x -> Build.patternsOf(x, parts))
                .due("pattern(-1, 0, -1)", x -> x.pattern(-1, 0, -1), count);
        }
        new Edge("Terms, \"numbered from 0\", the first one", x -> {
            x.insert(1, 2, 3);
            x.pattern(-1, 2, 3);
        })
            .due("estimate(0, 0)", x -> x.estimate(0, 0), 1)
            .due("plan(0)", x -> x.plan(0), 0)
            .due("use(0)", x -> x.use(0), 1)
            .due("use(1)", x -> x.use(1), BAD);
    }

    private static void itemsOfPatterns() {
        int[] items = {0, 1, 62, 63, -1, -2, -7, -8};
        int[] none = {-9, 64, -10, 65, -64, 128, MIN, MIN + 8, MAX, MAX - 63};
        new Edge("Terms, \"a number 0 .. 63, or a VARIABLE, -1 .. -8\"")
            .dueAtEachPlace("pattern", Counted::pattern, 5, 0, items)
            .dueAtEachPlace("pattern", Counted::pattern, -3, 0, items)
            .dueAtEachPlace("pattern", Counted::pattern, 5, BAD, none)
            .dueAtEachPlace("pattern", Counted::pattern, -3, BAD, none)
            .due("pattern(MIN, MIN, MIN)", x -> x.pattern(MIN, MIN, MIN), BAD)
            .due("pattern(MAX, MAX, MAX)", x -> x.pattern(MAX, MAX, MAX), BAD)
            .due("pattern(-9, 64, -9)", x -> x.pattern(-9, 64, -9), BAD);
        for (int variable = -1; variable >= -8; variable--) {
            int item = variable;
            new Edge("Terms, \"a VARIABLE, -1 .. -8\", takes numbers", x -> {
                x.insert(63, 0, 62);
                x.insert(62, 1, 1);
                x.pattern(item, 0, 62);
                x.solutions();
            }).due("value(0, " + variable + ")", x -> x.value(0, item), 63);
        }
        for (int number : new int[] {0, 63}) {
            new Edge("Terms, \"a number 0 .. 63\", stands for itself", x -> {
                x.insert(number, 1, number);
                x.insert(31, 1, number);
                x.insert(number, 1, 31);
                x.pattern(number, -1, number);
            }).due("solutions() with " + number, Counted::solutions, 1);
        }
    }

    private static void solutionOfNoPatterns() {
        Edge.Run[] ways = {
            x -> x.solutions(),
            x -> {
                x.insert(1, 1, 1);
                x.solutions();
            },
            x -> {
                x.insert(1, 1, 1);
                x.pattern(-1, -2, -3);
                x.solutions();
                x.clear();
                x.solutions();
            }};
        for (Edge.Run way : ways) {
            new Edge("Terms, \"the one solution of no patterns gives none\"", way)
                .due("solutions()", Counted::solutions, 1)
                .dueForEach("value(0, #)", (x, variable) -> x.value(0, variable), BAD,
                    -1, -2, -3, -4, -5, -6, -7, -8, -9, 0, MIN, MAX)
                .dueForEach("value(#, -1)", (x, i) -> x.value(i, -1), BAD, -1, 1, MIN, MAX);
        }
    }

    /** Pattern 0 has n triples with d different numbers at place 0, where -1 stands. */
    private static void shared(Counted x, int n, int d) {
        for (int i = 0; i < n; i++) {
            x.insert(i % d, 0, i / d);
        }
        x.pattern(-1, 0, -2);
    }

    private static void roundedUp() {
        int[][] cases = {{1, 1, 1}, {2, 1, 2}, {2, 2, 1}, {3, 2, 2}, {4, 2, 2}, {5, 2, 3}, {7, 7, 1}, {8, 7, 2},
            {13, 7, 2}, {14, 7, 2}, {15, 7, 3}, {63, 63, 1}, {64, 64, 1}, {65, 64, 2}, {127, 64, 2}, {128, 64, 2},
            {129, 64, 3}, {448, 64, 7}, {449, 64, 8}, {509, 64, 8}, {509, 63, 9}, {504, 63, 8}};
        for (int[] each : cases) {
            new Edge("Terms, \"rounded up\"", x -> shared(x, each[0], each[1]))
                .due(each[0] + " / " + each[1], x -> x.estimate(0, 1), each[2])
                .due(each[0] + ", nothing being known", x -> x.estimate(0, 0), each[0]);
        }
    }

    /** Two different numbers at place 0 and three at place 2, whatever n is from 3 on. */
    private static void spread(Counted x, int n) {
        for (int i = 0; i < n; i++) {
            x.insert(i % 2, i / 6, i % 3);
        }
        x.pattern(-1, -2, -8);
        x.pattern(-1, -3, -1);
    }

    private static void roundedUpOverSeveralPlaces() {
        int[][] cases = {{5, 1}, {6, 1}, {7, 2}, {11, 2}, {12, 2}, {13, 3}, {18, 3}, {19, 4}};
        for (int[] each : cases) {
            new Edge("Terms, \"divided by all these D, rounded up\"", x -> spread(x, each[0]))
                .due(each[0] + " / (2 * 3)", x -> x.estimate(0, 0b10000001), each[1])
                .due(each[0] + " / (2 * 3), one variable at both places", x -> x.estimate(1, 1), each[1]);
        }
        new Edge("Terms, \"divided by all these D, rounded up\"", x -> spread(x, 19))
            .due("19 / (2 * 4 * 3)", x -> x.estimate(0, 0b10000011), 1)
            .due("19 / 4", x -> x.estimate(0, 0b00000010), 5)
            .due("19 / 2", x -> x.estimate(0, 0b00000001), 10)
            .due("19 / 3", x -> x.estimate(0, 0b10000000), 7);
    }

    private static void zeroWhenNIsZero() {
        Edge.Run[] ways = {
            x -> x.pattern(-1, 0, -2),
            x -> {
                x.insert(0, 1, 0);
                x.pattern(-1, 0, -2);
            },
            x -> {
                x.insert(0, 0, 0);
                x.pattern(-1, 0, -2);
                x.estimate(0, 3);
                x.remove(0, 0, 0);
            },
            x -> {
                x.insert(3, 4, 6);
                x.pattern(3, 4, 5);
            },
            x -> x.pattern(-1, -2, -8)};
        for (Edge.Run way : ways) {
            new Edge("Terms, \"0 when N is 0\"", way)
                .dueForEach("estimate(0, #)", (x, known) -> x.estimate(0, known), 0, 0, 1, 2, 3, 128, 255, -1, MIN, MAX)
                .due("cost()", Counted::cost, 0);
        }
        new Edge("Terms, \"0 when N is 0\", and one triple more", x -> {
            x.insert(0, 0, 0);
            x.pattern(-1, 0, -2);
        }).dueForEach("estimate(0, #)", (x, known) -> x.estimate(0, known), 1, 0, 1, 2, 3, 255, -1, MIN, MAX);
    }

    private static Edge sizes(String of, int[] counts, int... parts) {
        return new Edge("Terms, \"sizes are 10^12 at most\", " + of, x -> {
            for (int b = 0; b < counts.length; b++) {
                Build.triplesWith(x, b, counts[b]);
            }
            Build.patternsOf(x, parts);
            Build.useAll(x, 0, 1, 2, 3, 4, 5);
        });
    }

    private static void sizesAtMost() {
        sizes("99^6", new int[] {99}, 0, 0, 0, 0, 0, 0)
            .due("size(5)", x -> x.size(5), 9509900499L)
            .due("size(6)", x -> x.size(6), 941480149401L);
        sizes("318^3 * 257 * 11^2", new int[] {257, 11, 50}, -1, -1, -1, 0, 1, 1)
            .due("size(5)", x -> x.size(5), 90909060264L)
            .due("size(6)", x -> x.size(6), 999999662904L);
        sizes("100^6", new int[] {100}, 0, 0, 0, 0, 0, 0)
            .due("size(5)", x -> x.size(5), 10000000000L)
            .due("size(6)", x -> x.size(6), MOST);
        sizes("200^3 * 50^3", new int[] {50, 150}, -1, 0, -1, 0, -1, 0)
            .due("size(5)", x -> x.size(5), 20000000000L)
            .due("size(6)", x -> x.size(6), MOST);
        sizes("330 * 235^2 * 38^3, which is 1000001046000", new int[] {235, 38, 57}, -1, 0, 0, 1, 1, 1)
            .due("size(5)", x -> x.size(5), 26315817000L)
            .due("size(6)", x -> x.size(6), MOST);
        sizes("101^6", new int[] {101}, 0, 0, 0, 0, 0, 0)
            .due("size(5)", x -> x.size(5), 10510100501L)
            .due("size(6)", x -> x.size(6), MOST);
        sizes("480^6", new int[] {480}, 0, 0, 0, 0, 0, 0)
            .due("size(4)", x -> x.size(4), 53084160000L)
            .due("size(5)", x -> x.size(5), MOST)
            .due("size(6)", x -> x.size(6), MOST)
            .due("size(7)", x -> x.size(7), BAD);
    }

    /** What comes after a size that is 10^12 by the bound. */
    private static void sizesOnceAtMost() {
        sizes("251^5", new int[] {251, 1}, 0, 0, 0, 0, 0, 1)
            .due("size(5)", x -> x.size(5), 996250626251L)
            .due("size(6), times 1", x -> x.size(6), 996250626251L);
        sizes("252^5", new int[] {252, 1, 2}, 0, 0, 0, 0, 0, 1)
            .due("size(5)", x -> x.size(5), MOST)
            .due("size(6), times 1", x -> x.size(6), MOST);
        sizes("252^5", new int[] {252, 1, 2}, 0, 0, 0, 0, 0, 2)
            .due("size(6), times 2", x -> x.size(6), MOST);
        sizes("252^5", new int[] {252, 1, 2}, 0, 0, 0, 0, 0, 3)
            .due("size(5)", x -> x.size(5), MOST)
            .due("size(6), times 0", x -> x.size(6), 0);
    }

    private static Edge costs(String of, int[] counts, int... parts) {
        return new Edge("Terms, the cost is \"likewise at most 10^12\", " + of, x -> {
            for (int b = 0; b < counts.length; b++) {
                Build.triplesWith(x, b, counts[b]);
            }
            Build.patternsOf(x, parts);
        });
    }

    private static void costAtMost() {
        costs("99^6 and so on", new int[] {99}, 0, 0, 0, 0, 0, 0)
            .due("cost()", Counted::cost, 951087089700L);
        costs("99 * 100^5 and so on, which is 10^12 - 1", new int[] {99, 100}, 1, 1, 1, 1, 1, 0)
            .due("cost()", Counted::cost, MOST - 1)
            .due("plan(0)", x -> x.plan(0), 5);
        costs("21^2 * 183^3 * 369 and so on, which is 1000000073604", new int[] {21, 183, 165}, 0, 0, 1, 1, 1, -1)
            .due("cost()", Counted::cost, MOST);
        costs("100^6 and so on", new int[] {100}, 0, 0, 0, 0, 0, 0)
            .due("cost()", Counted::cost, MOST);
        costs("500^6 and so on", new int[] {500}, 0, 0, 0, 0, 0, 0)
            .due("cost()", Counted::cost, MOST);
        costs("252^5 and so on", new int[] {252}, 0, 0, 0, 0, 0)
            .due("cost()", Counted::cost, MOST);
        costs("250^5 and so on", new int[] {250}, 0, 0, 0, 0, 0)
            .due("cost()", Counted::cost, 980484437750L);
    }

    /**
     * Pattern 5 goes on 100 times; when -1 is known from it, pattern 4 goes on 198 / 2 times (or so many as are
     * asked for); each other one 100 times. By 198 the order 5, 4, 0, 1, 2, 3 costs 10^12, and each other one more.
     */
    private static void cheapestAtTheEnd(Counted x, int all) {
        for (int i = 0; i < all; i++) {
            x.insert(i % 2, i / 100, i / 2 % 50);
        }
        Build.patternsOf(x, 0, 0, 0, 0);
        x.pattern(-7, -8, -8);
        x.pattern(-7, 0, -6);
    }

    private static void costOfExactlyTheMost() {
        new Edge("Terms, the cost is \"likewise at most 10^12\", exactly that", x -> cheapestAtTheEnd(x, 198))
            .due("cost()", Counted::cost, MOST);
        long[] sizes = {100, 9900, 990000, 99000000, 9900000000L, 990000000000L};
        long sum = 0;
        for (int i = 0; i < 6; i++) {
            int k = i + 1;
            new Edge("Terms, the cost is \"likewise at most 10^12\", exactly that", x -> {
                cheapestAtTheEnd(x, 198);
                Build.useAll(x, 5, 4, 0, 1, 2, 3);
            }).due("size(" + k + ")", x -> x.size(k), sizes[i]);
            sum += sizes[i];
        }
        Due.is("what the sizes of exactly 10^12 come to", sum, MOST);
        new Edge("Terms, the cost is \"likewise at most 10^12\", with 196 / 2 for 198 / 2", x -> cheapestAtTheEnd(x, 196))
            .due("cost()", Counted::cost, 989898989900L);
    }

    private static void duePlan(Edge edge, int... plan) {
        for (int i = 0; i < plan.length; i++) {
            int k = i;
            edge.due("plan(" + k + ")", x -> x.plan(k), plan[k]);
        }
    }

    /** Costs that are 10^12 by the bound are equal, so the numbers decide among their orders. */
    private static void planOfCostsAtMost() {
        duePlan(new Edge("Terms, \"the order of the least cost\", one below 10^12", x -> cheapestAtTheEnd(x, 196)),
            5, 4, 0, 1, 2, 3);
        duePlan(new Edge("Terms, \"the order of the least cost\", all 10^12 and one not by the bound",
            x -> cheapestAtTheEnd(x, 198)), 0, 1, 2, 3, 4, 5);
        duePlan(costs("all far beyond", new int[] {260, 40}, -1, 0, 0, -1, 0, 0), 0, 1, 2, 3, 4, 5);
        duePlan(costs("all beyond but those that begin with 5", new int[] {99, 100}, 1, 1, 1, 1, 1, 0),
            5, 0, 1, 2, 3, 4);
        duePlan(costs("all beyond but those that begin with 3", new int[] {300}, 0, 0, 0, 1, 0, 0), 3, 0, 1, 2, 4, 5);
    }

    private static Edge ties(int[][] triples, int[][] patterns) {
        return new Edge("Terms, \"the one with the least first number, then the least second one\"", x -> {
            for (int[] triple : triples) {
                x.insert(triple[0], triple[1], triple[2]);
            }
            for (int[] pattern : patterns) {
                x.pattern(pattern[0], pattern[1], pattern[2]);
            }
        });
    }

    private static void leastFirstNumber() {
        int[][] none = {};
        duePlan(ties(none, new int[][] {{-1, 0, 0}, {-1, 0, 0}, {0, 0, 0}, {-2, 0, 0}, {0, 0, 0}, {-1, 0, 0}}),
            0, 1, 2, 3, 4, 5);
        // Of least cost are 0, 2, 1 and 1, 0, 2.
        Edge edge = ties(new int[][] {{0, 1, 2}, {1, 0, 1}, {1, 1, 0}, {1, 1, 1}, {3, 0, 1}},
            new int[][] {{-2, 0, -1}, {-3, 0, -2}, {-3, 1, -1}}).due("cost()", Counted::cost, 6);
        duePlan(edge, 0, 2, 1);
        // Of least cost are 1, 2, 0 and 2, 0, 1.
        edge = ties(new int[][] {{0, 1, 0}, {3, 0, 1}, {3, 0, 3}, {3, 1, 2}, {3, 1, 3}},
            new int[][] {{-3, 1, -1}, {-2, 0, -3}, {-1, 0, -2}}).due("cost()", Counted::cost, 6);
        duePlan(edge, 1, 2, 0);
        // Of least cost are 0, 2, 1 and 1, 0, 2 and 2, 0, 1.
        edge = ties(new int[][] {{0, 0, 0}, {0, 1, 1}, {0, 1, 3}, {1, 1, 1}, {2, 1, 3}, {3, 1, 1}},
            new int[][] {{-2, 1, -1}, {-3, 1, -2}, {-1, 1, -2}}).due("cost()", Counted::cost, 25);
        duePlan(edge, 0, 2, 1);
    }

    private static void leastSecondNumber() {
        // Patterns 2 and 4 have no triples: an order that begins with one of them costs 0.
        Edge edge = new Edge("Terms, \"then the least second one, and so on\", by costs of 0", x -> {
            Build.triplesWith(x, 0, 3);
            Build.patternsOf(x, 0, 0, 1, 0, 1, 0);
        }).due("cost()", Counted::cost, 0);
        duePlan(edge, 2, 0, 1, 3, 4, 5);
        // Of least cost are 1, 0, 2 and 1, 2, 0 and 2, 0, 1.
        edge = ties(new int[][] {{0, 0, 1}, {1, 0, 2}, {2, 1, 0}, {2, 1, 3}, {3, 0, 0}},
            new int[][] {{-1, 0, -2}, {-2, 1, -1}, {-3, 1, -2}}).due("cost()", Counted::cost, 6);
        duePlan(edge, 1, 0, 2);
        // The lesser part comes first, those of equal parts by their numbers.
        edge = costs("below it", new int[] {2, 3, 4}, 2, 1, 0, 2, 0, 1);
        duePlan(edge, 2, 4, 1, 5, 0, 3);
    }
}
