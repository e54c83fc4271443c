/** The boundaries of the promises that tell of THE RULE: 7, 8, 9 and 12. */
public final class RuleEdgesTest {
    private static final int BAD = -1;
    private static final int MIN = Integer.MIN_VALUE;
    private static final int MAX = Integer.MAX_VALUE;

    private RuleEdgesTest() {
    }

    public static void main(String[] args) {
        bitsOfKnown();
        bitsOfNoVariable();
        knownThatStandsNowhere();
        estimateOfNoSuch();
        planFromZero();
        planOfNone();
        planWhateverIsMade();
        costOfNoPatterns();
        sizeFromOne();
        sizeAsFarAsItGoes();
        Due.end();
    }

    /** Pattern 0 has two triples, and two different numbers where the variable stands. */
    private static void twoTriples(Counted x, int variable) {
        x.insert(0, 1, 1);
        x.insert(1, 1, 1);
        x.insert(5, 5, 5);
        x.pattern(variable, 1, 1);
    }

    private static void bitsOfKnown() {
        for (int variable = -1; variable >= -8; variable--) {
            int item = variable;
            Edge edge = new Edge("Promise 7, \"bit 0 for -1, bit 7 for -8\", " + variable, x -> twoTriples(x, item));
            for (int bit = 0; bit < 32; bit++) {
                int known = 1 << bit;
                boolean own = bit == -1 - variable;
                edge.due("estimate(0, 1 << " + bit + ")", x -> x.estimate(0, known), own ? 1 : 2);
                edge.due("estimate(0, ~(1 << " + bit + "))", x -> x.estimate(0, ~known), own ? 2 : 1);
            }
            edge.due("estimate(0, 0)", x -> x.estimate(0, 0), 2);
            edge.due("estimate(0, 255)", x -> x.estimate(0, 255), 1);
        }
    }

    private static void bitsOfNoVariable() {
        new Edge("Promise 7, \"others do not count\"", x -> {
            Build.triplesWith(x, 1, 128);
            x.pattern(-1, 1, -8);
        })
            .dueForEach("estimate(0, #)", (x, known) -> x.estimate(0, known), 128,
                0, 256, 512, 1 << 16, 1 << 30, MIN, ~255, MAX - 255, 126)
            .dueForEach("estimate(0, #)", (x, known) -> x.estimate(0, known), 2, 1, 257, MIN | 1, ~255 | 1, 127)
            .dueForEach("estimate(0, #)", (x, known) -> x.estimate(0, known), 64, 128, 384, MIN | 128, ~255 | 128, 254)
            .dueForEach("estimate(0, #)", (x, known) -> x.estimate(0, known), 1, 129, 255, 511, -1, MAX, MIN | 129);
    }

    private static void knownThatStandsNowhere() {
        new Edge("Promise 7, \"those variables are known that known tells\", in a pattern of numbers alone", x -> {
            x.insert(1, 2, 3);
            x.pattern(1, 2, 3);
            x.pattern(1, 2, 4);
        })
            .dueForEach("estimate(0, #)", (x, known) -> x.estimate(0, known), 1, 0, 1, 255, -1, MIN, MAX)
            .dueForEach("estimate(1, #)", (x, known) -> x.estimate(1, known), 0, 0, 1, 255, -1, MIN, MAX);
    }

    private static void estimateOfNoSuch() {
        for (int count = 0; count <= 6; count++) {
            int[] parts = new int[count];
            Edge edge = new Edge("Promise 7, \"BAD when there is no such pattern\", of " + count, x -> {
                Build.triplesWith(x, 0, 2);
                Build.patternsOf(x, parts);
            })
                .dueForEach("estimate(#, 0)", (x, pattern) -> x.estimate(pattern, 0), BAD,
                    -1, count, count + 1, 6, 7, 32, 64, -32, MIN, MAX)
                .dueForEach("estimate(#, -1)", (x, pattern) -> x.estimate(pattern, -1), BAD, -1, count, MIN, MAX);
            if (count > 0) {
                edge.dueForEach("estimate(#, 0)", (x, pattern) -> x.estimate(pattern, 0), 2, 0, count - 1);
            }
        }
        new Edge("Promise 7, \"BAD when there is no such pattern\", any more", x -> {
            Build.triplesWith(x, 0, 2);
            Build.patternsOf(x, 0, 0, 0);
            x.clear();
            Build.patternsOf(x, 0);
        })
            .due("estimate(0, 0)", x -> x.estimate(0, 0), 2)
            .due("estimate(1, 0)", x -> x.estimate(1, 0), BAD)
            .due("estimate(2, 0)", x -> x.estimate(2, 0), BAD);
    }

    /** Pattern i has 7 - i triples, so the last one comes first. */
    private static void falling(Counted x, int count) {
        for (int i = 0; i < count; i++) {
            Build.triplesWith(x, i, 7 - i);
        }
        for (int i = 0; i < count; i++) {
            x.pattern(-1 - i, i, -1 - i);
        }
    }

    private static void planFromZero() {
        for (int count = 1; count <= 6; count++) {
            int patterns = count;
            Edge edge = new Edge("Promise 8, \"k from 0\", of " + count, x -> falling(x, patterns));
            for (int k = 0; k < count; k++) {
                int asked = k;
                edge.due("plan(" + k + ")", x -> x.plan(asked), count - 1 - k);
            }
        }
    }

    private static void planOfNone() {
        for (int count = 0; count <= 6; count++) {
            int patterns = count;
            new Edge("Promise 8, \"BAD when there is none\", of " + count, x -> falling(x, patterns))
                .dueForEach("plan(#)", Counted::plan, BAD, -1, count, count + 1, 6, 7, 32, -32, MIN, MIN + 1, MAX);
        }
        new Edge("Promise 8, \"BAD when there is none\", any more", x -> {
            falling(x, 6);
            x.plan(5);
            x.clear();
            x.pattern(-1, 3, -1);
        })
            .due("plan(0)", x -> x.plan(0), 0)
            .due("plan(1)", x -> x.plan(1), BAD)
            .due("plan(5)", x -> x.plan(5), BAD);
    }

    private static void planWhateverIsMade() {
        new Edge("Promise 8, \"THE PLAN\" is of all patterns, whatever order is made", x -> {
            falling(x, 3);
            Build.useAll(x, 0, 1);
        })
            .due("plan(0)", x -> x.plan(0), 2)
            .due("plan(2)", x -> x.plan(2), 0)
            .due("plan(3)", x -> x.plan(3), BAD);
    }

    private static void costOfNoPatterns() {
        new Edge("Promise 9, \"0 of no patterns\"").due("cost()", Counted::cost, 0);
        new Edge("Promise 9, \"0 of no patterns\", but of triples", x -> Build.triplesWith(x, 0, 300))
            .due("cost()", Counted::cost, 0);
        new Edge("Promise 9, \"0 of no patterns\", any more", x -> {
            falling(x, 6);
            x.cost();
            x.clear();
        }).due("cost()", Counted::cost, 0);
        new Edge("Promise 9, and more of one", x -> falling(x, 1)).due("cost()", Counted::cost, 7);
        new Edge("Promise 9, and more of two", x -> falling(x, 2)).due("cost()", Counted::cost, 6 + 6 * 7);
        new Edge("Promise 9, and more of six", x -> falling(x, 6))
            .due("cost()", Counted::cost, 2 + 6 + 24 + 120 + 720 + 5040);
        new Edge("Promise 9, 0 of one without triples", x -> x.pattern(-1, 0, -1)).due("cost()", Counted::cost, 0);
    }

    private static void sizeFromOne() {
        for (int count = 0; count <= 6; count++) {
            int used = count;
            Edge edge = new Edge("Promise 12, \"from 1\", an order of " + count, x -> {
                falling(x, 6);
                for (int i = 0; i < used; i++) {
                    x.use(i);
                }
            })
                .dueForEach("size(#)", Counted::size, BAD,
                    0, -1, -2, count + 1, count + 2, 7, 8, 32, 33, -31, -32, MIN, MIN + 1, MAX);
            long size = 1;
            for (int k = 1; k <= count; k++) {
                int asked = k;
                size *= 8 - k;
                edge.due("size(" + k + ")", x -> x.size(asked), size);
            }
        }
    }

    private static void sizeAsFarAsItGoes() {
        new Edge("Promise 12, \"as far as it goes\", not all patterns", x -> {
            falling(x, 6);
            Build.useAll(x, 4, 1);
        })
            .due("size(1)", x -> x.size(1), 3)
            .due("size(2)", x -> x.size(2), 18)
            .due("size(3)", x -> x.size(3), BAD);
        new Edge("Promise 12, \"BAD when it has not so many\", any more", x -> {
            falling(x, 6);
            Build.useAll(x, 4, 1);
            x.drop();
            x.use(1);
        })
            .due("size(1)", x -> x.size(1), 6)
            .due("size(2)", x -> x.size(2), BAD);
        new Edge("Promise 12, a size of 0", x -> {
            falling(x, 5);
            x.pattern(-6, 40, -6);
            Build.useAll(x, 0, 5, 1);
        })
            .due("size(1)", x -> x.size(1), 7)
            .due("size(2)", x -> x.size(2), 0)
            .due("size(3)", x -> x.size(3), 0);
    }
}
