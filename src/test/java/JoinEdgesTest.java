import java.util.ArrayList;
import java.util.Arrays;
import java.util.List;

/** The boundaries of the promises that tell of rows and solutions: 13, 14 and 15. */
public final class JoinEdgesTest {
    private static final int BAD = -1;
    private static final int NO = -2;
    private static final int FULL = -3;
    private static final int MIN = Integer.MIN_VALUE;
    private static final int MAX = Integer.MAX_VALUE;

    private JoinEdgesTest() {
    }

    public static void main(String[] args) {
        rowsOfNone();
        rowsAtMost();
        rowsOneMore();
        rowsBeforeAnEnd();
        solutionsOfNone();
        solutionsAtMost();
        solutionsByThePlan();
        solutionsNoneOfManyRows();
        valueOfNoSuchSolution();
        valueOfNoSuchVariable();
        valueOfVariableThatStandsNowhere();
        valueOfTheLatest();
        valueAfterInsert();
        valueAfterRemove();
        valueAfterPattern();
        valueAfterClear();
        valueAfterQuestions();
        valuesByAllVariables();
        valuesOfAllCounts();
        Due.end();
    }

    /** Part b of the product is used as number b of this order. */
    private static Edge rowsOf(String sentence, int[] counts, int... order) {
        return new Edge(sentence + " of " + Arrays.toString(counts) + ", order " + Arrays.toString(order), x -> {
            Build.product(x, counts);
            Build.useAll(x, order);
        });
    }

    private static void rowsOfNone() {
        rowsOf("Promise 13", new int[] {3, 2}).due("rows()", Counted::rows, 0);
        rowsOf("Promise 13", new int[] {0, 2}, 0).due("rows()", Counted::rows, 0);
        rowsOf("Promise 13", new int[] {0, 2}, 0, 1).due("rows()", Counted::rows, 0);
        rowsOf("Promise 13", new int[] {0, 2}, 1, 0).due("rows()", Counted::rows, 2);
        rowsOf("Promise 13", new int[] {1, 1}, 1).due("rows()", Counted::rows, 1);
        rowsOf("Promise 13", new int[] {1, 1}, 1, 0).due("rows()", Counted::rows, 2);
    }

    private static void rowsAtMost() {
        String sentence = "Promise 13, \"NO when these are more than 20000\"";
        rowsOf(sentence + ", 100 + 100 * 199 = 20000", new int[] {100, 199}, 0, 1).due("rows()", Counted::rows, 20000);
        rowsOf(sentence + ", 80 + 80 * 249 = 20000", new int[] {80, 249}, 0, 1).due("rows()", Counted::rows, 20000);
        rowsOf(sentence + ", 113 + 113 * 176 = 20001", new int[] {113, 176}, 0, 1).due("rows()", Counted::rows, NO);
        rowsOf(sentence + ", 177 + 177 * 112 = 20001", new int[] {112, 177}, 1, 0).due("rows()", Counted::rows, NO);
        rowsOf(sentence + ", 199 + 199 * 100 = 20099", new int[] {100, 199}, 1, 0).due("rows()", Counted::rows, NO);
        rowsOf(sentence + ", 100 + 100 * 198 = 19900", new int[] {100, 198}, 0, 1).due("rows()", Counted::rows, 19900);
        rowsOf(sentence + ", 2 + 66 + 19932 = 20000", new int[] {2, 33, 302}, 0, 1, 2).due("rows()", Counted::rows, 20000);
        rowsOf(sentence + ", 3 + 66 + 19932 = 20001", new int[] {3, 22, 302}, 0, 1, 2).due("rows()", Counted::rows, NO);
        rowsOf(sentence + ", 250 + 250 * 250", new int[] {250, 250}, 0, 1).due("rows()", Counted::rows, NO);
        rowsOf(sentence + ", 120 + 120^2 + 120^3 + 120^4", new int[] {120, 120, 120, 120}, 3, 2, 1, 0)
            .due("rows()", Counted::rows, NO);
    }

    /** 50 + 50 * 399 rows come by patterns 0 and 1, and by pattern 2 one more if its triple is there. */
    private static void fiftyAndMore(Counted x) {
        for (int i = 0; i < 50; i++) {
            x.insert(i, 0, 0);
        }
        for (int i = 0; i < 399; i++) {
            x.insert(10 + i / 64, 1, i % 64);
        }
        x.pattern(-1, 0, 0);
        x.pattern(-7, 1, -8);
        x.pattern(-1, -7, -8);
        Build.useAll(x, 0, 1, 2);
    }

    private static void rowsOneMore() {
        String sentence = "Promise 13, \"NO when these are more than 20000\"";
        new Edge(sentence + ", 20000 rows", JoinEdgesTest::fiftyAndMore).due("rows()", Counted::rows, 20000);
        new Edge(sentence + ", and one more", x -> {
            fiftyAndMore(x);
            x.insert(3, 10, 5);
        }).due("rows()", Counted::rows, NO);
        new Edge(sentence + ", and one more, which goes again", x -> {
            fiftyAndMore(x);
            x.insert(3, 10, 5);
            x.rows();
            x.remove(3, 10, 5);
        }).due("rows()", Counted::rows, 20000);
    }

    /** Rows count though none of them is a row after the last pattern. */
    private static void rowsBeforeAnEnd() {
        String sentence = "Promise 13, \"all together\", with none after the last pattern";
        rowsOf(sentence, new int[] {100, 199, 0}, 0, 1, 2).due("rows()", Counted::rows, 20000);
        rowsOf(sentence, new int[] {113, 176, 0}, 0, 1, 2).due("rows()", Counted::rows, NO);
        rowsOf(sentence, new int[] {113, 176, 0}, 0, 2, 1).due("rows()", Counted::rows, 113);
        rowsOf(sentence, new int[] {113, 176, 0}, 2, 0, 1).due("rows()", Counted::rows, 0);
    }

    private static void solutionsOfNone() {
        new Edge("Promise 14, \"1 of none\"").due("solutions()", Counted::solutions, 1);
        new Edge("Promise 14, \"1 of none\", but of triples", x -> Build.triplesWith(x, 0, 500))
            .due("solutions()", Counted::solutions, 1);
        new Edge("Promise 14, \"1 of none\", any more", x -> {
            Build.product(x, 2, 3);
            x.solutions();
            x.clear();
        }).due("solutions()", Counted::solutions, 1);
        new Edge("Promise 14, of one without triples", x -> x.pattern(-1, -2, -3)).due("solutions()", Counted::solutions, 0);
        new Edge("Promise 14, of one with a triple", x -> {
            x.insert(0, 0, 0);
            x.pattern(-1, -2, -3);
        }).due("solutions()", Counted::solutions, 1);
        new Edge("Promise 14, of numbers alone", x -> {
            x.insert(0, 0, 0);
            x.pattern(0, 0, 0);
        }).due("solutions()", Counted::solutions, 1);
    }

    private static Edge solutionsOf(String rows, int... counts) {
        return new Edge("Promise 14, \"NO when .. more than 20000 rows come\", " + rows, x -> Build.product(x, counts));
    }

    private static void solutionsAtMost() {
        solutionsOf("100 + 100 * 199 = 20000", 100, 199).due("solutions()", Counted::solutions, 19900);
        solutionsOf("113 + 113 * 176 = 20001", 113, 176).due("solutions()", Counted::solutions, NO);
        solutionsOf("100 + 100 * 200 = 20100", 100, 200).due("solutions()", Counted::solutions, NO);
        solutionsOf("2 + 66 + 19932 = 20000", 2, 33, 302).due("solutions()", Counted::solutions, 19932);
        solutionsOf("3 + 66 + 19932 = 20001", 3, 22, 302).due("solutions()", Counted::solutions, NO);
        solutionsOf("250 + 250 * 250", 250, 250).due("solutions()", Counted::solutions, NO);
        solutionsOf("120 + 120^2 + 120^3 + 120^4", 120, 120, 120, 120).due("solutions()", Counted::solutions, NO);
        Edge.Run oneMore = x -> {
            Build.product(x, 100, 199);
            x.solutions();
            x.insert(63, 1, 63);
        };
        new Edge("Promise 14, one triple more", oneMore).due("solutions()", Counted::solutions, NO);
        new Edge("Promise 14, one triple more, which goes again", x -> {
            oneMore.on(x);
            x.solutions();
            x.remove(63, 1, 63);
        }).due("solutions()", Counted::solutions, 19900);
    }

    private static void solutionsByThePlan() {
        String sentence = "Promise 14, \"by THE PLAN\"";
        // 100 + 100 * 199 rows by the plan; 199 + 199 * 100 in the order of the numbers or the one that is made.
        new Edge(sentence + ", 20000 rows, but 20099 by the order that is made", x -> {
            Build.product(x, 199, 100);
            Build.useAll(x, 0, 1);
        })
            .due("rows()", Counted::rows, NO)
            .due("solutions()", Counted::solutions, 19900);
        // By the rule -1 goes on 253 / 63 times; but 190 triples begin with the 1 that stands in pattern 2.
        Edge.Run misled = x -> {
            for (int i = 0; i < 189; i++) {
                x.insert(1, i % 63, 40 + i / 63);
            }
            for (int i = 2; i < 64; i++) {
                x.insert(i, 63, 50);
            }
            x.insert(1, 63, 51);
            x.pattern(-1, -2, -3);
            x.pattern(-1, -4, -5);
            x.pattern(-1, 63, 51);
        };
        new Edge(sentence + ", which costs 21 but has 1 + 190 + 190 * 190 rows", misled)
            .due("plan(0)", x -> x.plan(0), 2)
            .due("cost()", Counted::cost, 21)
            .due("solutions()", Counted::solutions, NO);
        new Edge(sentence + ", more than 20000 rows, but few by the order that is made", x -> {
            misledByNothing(x);
            Build.useAll(x, 2, 0, 1);
        })
            .due("plan(0)", x -> x.plan(0), 0)
            .due("rows()", Counted::rows, 0)
            .due("solutions()", Counted::solutions, NO);
    }

    /** Pattern 2 has 300 for its estimate and no row, so it comes last and 150 + 150 * 150 rows come before it. */
    private static void misledByNothing(Counted x) {
        Build.product(x, 150, 150);
        x.remove(0, 0, 0);
        x.insert(60, 0, 63);
        x.remove(1, 1, 1);
        x.insert(60, 1, 63);
        x.pattern(-5, -5, -5);
    }

    private static void solutionsNoneOfManyRows() {
        // No triple has one number three times; the estimate of pattern 2 is 299 all the same.
        Edge.Run before = x -> {
            for (int i = 0; i < 100; i++) {
                x.insert(2 + i % 60, 0, i / 60);
            }
            for (int i = 0; i < 199; i++) {
                x.insert(2 + i % 60, 1, i / 60);
            }
            x.pattern(-1, 0, -2);
            x.pattern(-3, 1, -4);
            x.pattern(-5, -5, -5);
        };
        new Edge("Promise 14, \"more than 20000 rows\", 20000 and then none", before)
            .due("cost()", Counted::cost, 20000 + 19900 * 299)
            .due("solutions()", Counted::solutions, 0);
        new Edge("Promise 14, \"more than 20000 rows\", 20100 and then none", x -> {
            before.on(x);
            x.insert(63, 1, 63);
        }).due("solutions()", Counted::solutions, NO);
        new Edge("Promise 14, \"more than 20000 rows\", 20000 and then some", x -> {
            before.on(x);
            x.insert(30, 30, 30);
        }).due("solutions()", Counted::solutions, NO);
    }

    private static Edge solved(String sentence, int... counts) {
        return new Edge(sentence + " of " + Arrays.toString(counts), x -> {
            Build.product(x, counts);
            x.solutions();
        });
    }

    private static void valueOfNoSuchSolution() {
        String sentence = "Promise 15, \"solution i (from 0)\"";
        int[][] all = {{1}, {2}, {64}, {8, 8}, {13, 5}, {500}, {100, 199}, {2, 33, 302}};
        for (int[] counts : all) {
            int count = 1;
            for (int each : counts) {
                count *= each;
            }
            int last = counts[0] - 1;
            solved(sentence, counts)
                .due("value(0, -1)", x -> x.value(0, -1), 0)
                .due("value(0, -2)", x -> x.value(0, -2), 0)
                .dueForEach("value(#, -1)", (x, i) -> x.value(i, -1), Math.min(last, 63), count - 1)
                .dueForEach("value(#, -1)", (x, i) -> x.value(i, -1), BAD,
                    -1, -2, count, count + 1, 20000, 20001, MIN, MIN + 1, MAX, MAX - 1);
        }
        solved(sentence + ", with no solution", 0, 5)
            .dueForEach("value(#, -1)", (x, i) -> x.value(i, -1), BAD, 0, 1, -1, -4, MIN, MAX);
        solved(sentence + ", with too many rows", 113, 176)
            .dueForEach("value(#, -1)", (x, i) -> x.value(i, -1), BAD, 0, 1, -1, -2, -4, 19999, MIN, MAX);
        new Edge(sentence + ", before solutions()", x -> Build.product(x, 3, 3))
            .dueForEach("value(#, -1)", (x, i) -> x.value(i, -1), BAD, 0, 1, -1, -4, MIN, MAX);
    }

    private static void valueOfNoSuchVariable() {
        new Edge("Promise 15, \"a variable (-1 .. -8)\"", x -> {
            x.insert(60, 0, 59);
            x.insert(57, 1, 58);
            x.insert(56, 2, 55);
            x.insert(53, 3, 54);
            x.pattern(-1, 0, -2);
            x.pattern(-4, 1, -3);
            x.pattern(-5, 2, -6);
            x.pattern(-8, 3, -7);
            x.solutions();
        })
            .due("value(0, -1)", x -> x.value(0, -1), 60)
            .due("value(0, -2)", x -> x.value(0, -2), 59)
            .due("value(0, -3)", x -> x.value(0, -3), 58)
            .due("value(0, -4)", x -> x.value(0, -4), 57)
            .due("value(0, -5)", x -> x.value(0, -5), 56)
            .due("value(0, -6)", x -> x.value(0, -6), 55)
            .due("value(0, -7)", x -> x.value(0, -7), 54)
            .due("value(0, -8)", x -> x.value(0, -8), 53)
            .dueForEach("value(0, #)", (x, variable) -> x.value(0, variable), BAD,
                0, 1, 7, 8, 63, -9, -10, -16, -32, -33, -40, -64, -65, 31, 30, MIN, MIN + 1, MAX, MAX - 1);
    }

    private static void valueOfVariableThatStandsNowhere() {
        for (int variable = -1; variable >= -8; variable--) {
            int item = variable;
            Edge edge = new Edge("Promise 15, \"a variable that stands in no pattern\", beside " + variable, x -> {
                x.insert(9, 9, 9);
                x.pattern(9, item, 9);
                x.solutions();
            });
            for (int other = -1; other >= -8; other--) {
                int asked = other;
                edge.due("value(0, " + other + ")", x -> x.value(0, asked), other == variable ? 9 : BAD);
            }
        }
        Edge several = new Edge("Promise 15, \"a variable that stands in no pattern\", of three", x -> {
            x.insert(9, 8, 7);
            x.pattern(-2, 8, 7);
            x.pattern(9, -7, -4);
            x.pattern(-4, 8, -4);
            x.pattern(9, 8, -5);
            x.clear();
            x.pattern(-2, 8, 7);
            x.pattern(9, -7, -4);
            x.pattern(9, 8, -6);
            x.solutions();
        });
        int[] numbers = {BAD, 9, BAD, 7, BAD, 7, 8, BAD};
        for (int i = 0; i < numbers.length; i++) {
            int asked = -1 - i;
            several.due("value(0, " + asked + ")", x -> x.value(0, asked), numbers[i]);
        }
        new Edge("Promise 15, \"a variable that stands in no pattern\", any more", x -> {
            x.insert(9, 9, 9);
            x.pattern(-1, 9, -2);
            x.solutions();
            x.clear();
            x.pattern(9, -3, 9);
            x.solutions();
        })
            .due("value(0, -3)", x -> x.value(0, -3), 9)
            .due("value(0, -1)", x -> x.value(0, -1), BAD)
            .due("value(0, -2)", x -> x.value(0, -2), BAD);
        new Edge("Promise 15, \"a variable that stands in no pattern\", of numbers alone", x -> {
            x.insert(9, 9, 9);
            x.pattern(9, 9, 9);
            x.solutions();
        }).dueForEach("value(0, #)", (x, variable) -> x.value(0, variable), BAD, -1, -2, -7, -8);
    }

    private static void valueOfTheLatest() {
        new Edge("Promise 15, \"of the latest solutions()\", fewer than before", x -> {
            x.insert(4, 0, 4);
            x.insert(5, 0, 5);
            x.pattern(-1, 0, -2);
            x.solutions();
            x.remove(4, 0, 4);
            x.solutions();
        })
            .due("value(0, -1)", x -> x.value(0, -1), 5)
            .due("value(1, -1)", x -> x.value(1, -1), BAD);
        new Edge("Promise 15, \"of the latest solutions()\", asked twice", x -> {
            Build.product(x, 3, 3);
            x.solutions();
            x.solutions();
        })
            .due("value(8, -1)", x -> x.value(8, -1), 2)
            .due("value(9, -1)", x -> x.value(9, -1), BAD);
        new Edge("Promise 15, \"of the latest solutions()\", which was NO", x -> {
            Build.product(x, 100, 199);
            x.solutions();
            x.insert(63, 1, 63);
            x.solutions();
        }).dueForEach("value(#, -1)", (x, i) -> x.value(i, -1), BAD, 0, 1, 19899, -1, MIN, MAX);
        new Edge("Promise 15, \"of the latest solutions()\", after one that was NO", x -> {
            Build.product(x, 100, 200);
            x.solutions();
            x.remove(0, 1, 0);
            x.solutions();
        })
            .due("value(0, -3)", x -> x.value(0, -3), 0)
            .due("value(0, -4)", x -> x.value(0, -4), 1)
            .due("value(19899, -1)", x -> x.value(19899, -1), 63)
            .due("value(19900, -1)", x -> x.value(19900, -1), BAD);
    }

    private static Edge afterwards(String what, Edge.Run then) {
        return new Edge("Promise 15, \"also after insert(), remove(), pattern(), clear()\": " + what, x -> {
            Build.product(x, 2, 2);
            x.solutions();
            then.on(x);
        });
    }

    private static void gone(String what, Edge.Run then) {
        afterwards(what, then)
            .dueForEach("value(#, -1)", (x, i) -> x.value(i, -1), BAD, 0, 1, 3, 4, -1, MIN, MAX)
            .due("value(0, -4)", x -> x.value(0, -4), BAD);
    }

    /** The document names the calls, not their answers: so one that changes nothing counts too. */
    private static void valueAfterInsert() {
        gone("insert() of another", x -> x.insert(9, 9, 9));
        gone("insert() of one that a pattern is", x -> x.insert(9, 0, 9));
        gone("insert() that answers 0", x -> x.insert(0, 0, 0));
        gone("insert() that answers BAD", x -> x.insert(0, 0, 64));
        gone("insert() and remove() of the same", x -> {
            x.insert(9, 0, 9);
            x.remove(9, 0, 9);
        });
    }

    private static void valueAfterRemove() {
        gone("remove() of one that a pattern is", x -> x.remove(0, 0, 0));
        gone("remove() that answers 0", x -> x.remove(9, 9, 9));
        gone("remove() that answers BAD", x -> x.remove(0, 0, -1));
    }

    private static void valueAfterPattern() {
        gone("pattern() with the same variables", x -> x.pattern(-1, 0, -2));
        gone("pattern() of a triple", x -> x.pattern(0, 0, 0));
        gone("pattern() that answers BAD", x -> x.pattern(-9, 0, 0));
        new Edge("Promise 15, \"also after .. pattern()\": one that answers FULL", x -> {
            Build.triplesWith(x, 0, 1);
            Build.patternsOf(x, 0, 0, 0, 0, 0, 0);
            x.solutions();
            Due.is("a seventh pattern", x.pattern(-1, 0, -1), FULL);
        }).due("value(0, -1)", x -> x.value(0, -1), BAD);
    }

    private static void valueAfterClear() {
        gone("clear()", Counted::clear);
        gone("clear() and the same patterns again", x -> {
            x.clear();
            x.pattern(-1, 0, -2);
            x.pattern(-3, 1, -4);
        });
        new Edge("Promise 15, \"also after .. clear()\": of no patterns", x -> {
            x.solutions();
            x.clear();
        }).due("value(0, -1)", x -> x.value(0, -1), BAD);
        afterwards("but not once solutions() was asked again", x -> {
            x.insert(9, 9, 9);
            x.remove(9, 9, 9);
            x.pattern(-1, 0, -2);
            x.clear();
            x.pattern(-1, 0, -2);
            x.solutions();
        })
            .due("value(1, -1)", x -> x.value(1, -1), 1)
            .due("value(2, -1)", x -> x.value(2, -1), BAD);
    }

    private static void valueAfterQuestions() {
        Edge.Run[] questions = {x -> x.triples(), x -> x.estimate(0, 255), x -> x.plan(1), x -> x.cost(), x -> x.use(1),
            x -> x.use(MIN), x -> x.drop(), x -> x.size(1), x -> x.rows(), x -> x.value(MAX, MIN), x -> x.solutions(),
            x -> {
                Build.useAll(x, 1, 0);
                x.rows();
                x.drop();
            }};
        for (int i = 0; i < questions.length; i++) {
            afterwards("but not other calls, number " + i, questions[i])
                .due("value(3, -1)", x -> x.value(3, -1), 1)
                .due("value(3, -3)", x -> x.value(3, -3), 1)
                .due("value(2, -3)", x -> x.value(2, -3), 0)
                .due("value(4, -1)", x -> x.value(4, -1), BAD);
        }
    }

    /** Eight variables, so that each of them decides for some pair of solutions that stand side by side. */
    private static void valuesByAllVariables() {
        int[][] triples = {{0, 63, 7}, {63, 0, 7}, {1, 62, 8}, {62, 1, 0}};
        JoinPlanner x = new JoinPlanner();
        for (int[] triple : triples) {
            x.insert(triple[0], triple[1], triple[2]);
        }
        x.pattern(-8, -6, -7);
        x.pattern(-3, -5, -4);
        x.pattern(-2, -1, 7);
        List<int[]> due = new ArrayList<>();
        for (int[] one : triples) {
            for (int[] two : triples) {
                for (int[] three : triples) {
                    if (three[2] == 7) {
                        due.add(new int[] {three[1], three[0], two[0], two[2], two[1], one[1], one[2], one[0]});
                    }
                }
            }
        }
        due.sort(Arrays::compare);
        Due.is("Promise 15, sorted \"by the numbers of -1, then -2, and so on\": solutions()", x.solutions(), 32);
        for (int i = 0; i < 32; i++) {
            for (int variable = -1; variable >= -8; variable--) {
                Due.is("Promise 15, sorted \"by the numbers of -1, then -2, and so on\": value(" + i + ", " + variable + ")",
                    x.value(i, variable), due.get(i)[-1 - variable]);
            }
        }
        for (int variable = -1; variable > -8; variable--) {
            eachVariableDecides(variable);
        }
    }

    /** The numbers of one variable and of the next one go against each other. */
    private static void eachVariableDecides(int variable) {
        new Edge("Promise 15, sorted \"by the numbers of -1, then -2\", here of " + variable, x -> {
            x.insert(63, 5, 0);
            x.insert(0, 5, 63);
            x.insert(32, 5, 32);
            x.insert(32, 5, 31);
            x.pattern(variable - 1, 5, variable);
            x.solutions();
        })
            .due("value(0, first)", x -> x.value(0, variable), 0)
            .due("value(0, second)", x -> x.value(0, variable - 1), 63)
            .due("value(1, first)", x -> x.value(1, variable), 31)
            .due("value(2, first)", x -> x.value(2, variable), 32)
            .due("value(3, first)", x -> x.value(3, variable), 63)
            .due("value(3, second)", x -> x.value(3, variable - 1), 0);
    }

    /** As many solutions as there are pairs of so many and so many triples, all different and all in their order. */
    private static void valuesOfAllCounts() {
        int[][] all = {{1, 1}, {1, 2}, {1, 3}, {7, 9}, {8, 8}, {5, 13}, {1, 127}, {8, 16}, {3, 43}, {100, 199}, {139, 141}};
        for (int[] counts : all) {
            JoinPlanner x = new JoinPlanner();
            for (int i = 0; i < counts[0]; i++) {
                x.insert(63 - i % 64, 0, i / 64);
            }
            for (int i = 0; i < counts[1]; i++) {
                x.insert(i % 64, 1, 63 - i / 64);
            }
            x.pattern(-8, 0, -3);
            x.pattern(-4, 1, -1);
            int count = counts[0] * counts[1];
            Due.is("Promise 15, of " + Arrays.toString(counts) + ": solutions()", x.solutions(), count);
            long before = -1;
            for (int i = 0; i < count; i++) {
                long row = 0;
                for (int variable : new int[] {-1, -3, -4, -8}) {
                    int value = x.value(i, variable);
                    Due.holds("Promise 15: a number 0 .. 63 of solution " + i, value >= 0 && value <= 63);
                    row = row * 64 + value;
                }
                Due.holds("Promise 15: solution " + i + " comes after the one before it", row > before);
                before = row;
            }
            Due.is("Promise 15, of " + Arrays.toString(counts) + ": the one after the last", x.value(count, -1), BAD);
        }
    }
}
