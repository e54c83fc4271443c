/** The boundaries of the promises by which a state is made: 1 to 6, 10 and 11. */
public final class StateEdgesTest {
    private static final int BAD = -1;
    private static final int FULL = -3;
    private static final int MIN = Integer.MIN_VALUE;
    private static final int MAX = Integer.MAX_VALUE;

    private StateEdgesTest() {
    }

    public static void main(String[] args) {
        newObject();
        objectsApart();
        insertWhatIsThere();
        insertWhatIsWrong();
        insertWhenFull();
        removeWhatIsNotThere();
        removeWhatIsWrong();
        triplesNoneAndMany();
        callsUpTo512();
        patternMakesTheOrderEmpty();
        patternOfNoItem();
        patternWhenFull();
        clear();
        useNoSuch();
        useTwice();
        drop();
        Due.end();
    }

    private static void newObject() {
        new Edge("Promise 1, \"no triples, no patterns; the order that is made is empty\"")
            .due("insert(0, 0, 0)", x -> x.insert(0, 0, 0), 1)
            .due("insert(63, 63, 63)", x -> x.insert(63, 63, 63), 1)
            .due("insert(MIN, MAX, 64)", x -> x.insert(MIN, MAX, 64), BAD)
            .due("remove(0, 0, 0)", x -> x.remove(0, 0, 0), 0)
            .due("remove(63, 63, 63)", x -> x.remove(63, 63, 63), 0)
            .due("remove(MAX, MIN, -1)", x -> x.remove(MAX, MIN, -1), BAD)
            .due("triples()", Counted::triples, 0)
            .due("pattern(-1, -8, 0)", x -> x.pattern(-1, -8, 0), 0)
            .due("pattern(MIN, MAX, -9)", x -> x.pattern(MIN, MAX, -9), BAD)
            .due("clear()", Counted::clear, 0)
            .dueForEach("estimate(#, 0)", (x, pattern) -> x.estimate(pattern, 0), BAD, 0, 1, 5, 6, -1, MIN, MAX)
            .dueForEach("estimate(0, #)", (x, known) -> x.estimate(0, known), BAD, 1, 255, -1, MIN, MAX)
            .dueForEach("plan(#)", Counted::plan, BAD, 0, 1, 5, 6, -1, MIN, MAX)
            .due("cost()", Counted::cost, 0)
            .dueForEach("use(#)", Counted::use, BAD, 0, 1, 5, 6, -1, MIN, MAX)
            .due("drop()", Counted::drop, 0)
            .dueForEach("size(#)", Counted::size, BAD, 0, 1, 2, 6, 7, -1, MIN, MAX)
            .due("rows()", Counted::rows, 0)
            .due("solutions()", Counted::solutions, 1)
            .dueForEach("value(#, -1)", (x, i) -> x.value(i, -1), BAD, 0, 1, -1, MIN, MAX)
            .dueForEach("value(0, #)", (x, variable) -> x.value(0, variable), BAD, 0, -2, -8, -9, MIN, MAX);
    }

    private static void objectsApart() {
        JoinPlanner one = new JoinPlanner();
        one.insert(1, 2, 3);
        one.pattern(-1, 2, -2);
        one.use(0);
        one.solutions();
        JoinPlanner other = new JoinPlanner();
        Due.is("Promise 1, beside another object: triples()", other.triples(), 0);
        Due.is("Promise 1, beside another object: drop()", other.drop(), 0);
        Due.is("Promise 1, beside another object: clear()", other.clear(), 0);
        Due.is("Promise 1, beside another object: value(0, -1)", other.value(0, -1), BAD);
        Due.is("Promise 1, the other object: value(0, -1)", one.value(0, -1), 1);
        Due.is("Promise 1, the other object: drop()", one.drop(), 1);
    }

    /** All triples that differ from 5, 6, 7 by one at one place. */
    private static int[][] neighbours() {
        return new int[][] {{4, 6, 7}, {6, 6, 7}, {5, 5, 7}, {5, 7, 7}, {5, 6, 6}, {5, 6, 8}};
    }

    private static void insertWhatIsThere() {
        Edge one = new Edge("Promise 2, \"0 when it is there\"", x -> x.insert(5, 6, 7))
            .due("insert(5, 6, 7)", x -> x.insert(5, 6, 7), 0);
        for (int[] each : neighbours()) {
            one.due("a neighbour of 5, 6, 7", x -> x.insert(each[0], each[1], each[2]), 1);
        }
        new Edge("Promise 2, \"0 when it is there\", at the ends of the numbers", x -> {
            x.insert(0, 0, 0);
            x.insert(63, 63, 63);
            x.insert(0, 63, 0);
        })
            .due("insert(0, 0, 0)", x -> x.insert(0, 0, 0), 0)
            .due("insert(63, 63, 63)", x -> x.insert(63, 63, 63), 0)
            .due("insert(0, 63, 0)", x -> x.insert(0, 63, 0), 0)
            .due("insert(63, 0, 63)", x -> x.insert(63, 0, 63), 1);
        new Edge("Promise 2, \"0 when it is there\", and 1 when it went", x -> {
            x.insert(5, 6, 7);
            x.remove(5, 6, 7);
        }).due("insert(5, 6, 7)", x -> x.insert(5, 6, 7), 1);
        Edge many = new Edge("Promise 2, \"0 when it is there\", among 500", x -> Build.triplesWith(x, 9, 500));
        for (int i : new int[] {0, 1, 63, 64, 255, 256, 498, 499}) {
            many.due("insert of triple " + i, x -> x.insert(i % 64, 9, i / 64), 0);
        }
        many.due("insert of triple 500", x -> x.insert(500 % 64, 9, 500 / 64), 1);
    }

    private static void insertWhatIsWrong() {
        int[] wrong = {-1, 64, -8, -9, -64, 65, MIN, MAX};
        new Edge("Promise 2, \"BAD\"").dueAtEachPlace("insert", Counted::insert, 0, BAD, wrong);
        new Edge("Promise 2, \"BAD\", not 0", x -> {
            x.insert(0, 0, 0);
            x.insert(63, 63, 63);
        })
            .dueAtEachPlace("insert", Counted::insert, 0, BAD, wrong)
            .dueAtEachPlace("insert", Counted::insert, 63, BAD, wrong)
            .due("insert(-1, -1, -1)", x -> x.insert(-1, -1, -1), BAD)
            .due("insert(64, 64, 64)", x -> x.insert(64, 64, 64), BAD);
        new Edge("Promise 2, \"BAD\", and no triple comes", x -> {
            x.insert(64, 0, 0);
            x.insert(0, -1, 0);
            x.insert(0, 0, MIN);
            x.insert(MAX, MAX, MAX);
        }).due("triples()", Counted::triples, 0);
    }

    /** Beyond the 512 calls of an object, so by hand; no object can be full before. */
    private static void insertWhenFull() {
        JoinPlanner x = new JoinPlanner();
        for (int i = 0; i < 639; i++) {
            x.insert(i % 64, 9, i / 64);
        }
        Due.is("Promise 2, \"FULL\", with 639: insert", x.insert(63, 9, 9), 1);
        Due.is("Promise 2, \"FULL\", with 640: insert of another", x.insert(0, 0, 0), FULL);
        Due.is("Promise 2, \"FULL\", with 640: insert again", x.insert(0, 0, 0), FULL);
        Due.is("Promise 2, \"FULL\", with 640: insert of the last one", x.insert(63, 9, 9), 0);
        Due.is("Promise 2, \"FULL\", with 640: insert of a wrong one", x.insert(0, 64, 0), BAD);
        Due.is("Promise 2, \"FULL\", with 640: triples()", x.triples(), 640);
        Due.is("Promise 2, \"FULL\", with 640: remove", x.remove(31, 9, 4), 1);
        Due.is("Promise 2, \"FULL\", with 639 again: insert", x.insert(0, 0, 0), 1);
        Due.is("Promise 2, \"FULL\", with 640 again: insert", x.insert(31, 9, 4), FULL);
    }

    private static void removeWhatIsNotThere() {
        new Edge("Promise 3, \"0 when it is not there\", of none")
            .due("remove(0, 0, 0)", x -> x.remove(0, 0, 0), 0)
            .due("remove(63, 63, 63)", x -> x.remove(63, 63, 63), 0);
        Edge one = new Edge("Promise 3, \"0 when it is not there\"", x -> x.insert(5, 6, 7))
            .due("remove(5, 6, 7)", x -> x.remove(5, 6, 7), 1)
            .due("remove(7, 6, 5)", x -> x.remove(7, 6, 5), 0)
            .due("remove(0, 0, 0)", x -> x.remove(0, 0, 0), 0)
            .due("remove(63, 63, 63)", x -> x.remove(63, 63, 63), 0);
        for (int[] each : neighbours()) {
            one.due("a neighbour of 5, 6, 7", x -> x.remove(each[0], each[1], each[2]), 0);
        }
        new Edge("Promise 3, \"0 when it is not there\", having gone", x -> {
            x.insert(5, 6, 7);
            x.insert(5, 6, 8);
            x.remove(5, 6, 7);
        })
            .due("remove(5, 6, 7)", x -> x.remove(5, 6, 7), 0)
            .due("remove(5, 6, 8)", x -> x.remove(5, 6, 8), 1)
            .due("triples()", Counted::triples, 1);
        Edge many = new Edge("Promise 3, \"0 when it is not there\", among 500", x -> Build.triplesWith(x, 9, 500));
        for (int i : new int[] {0, 1, 63, 64, 255, 256, 498, 499}) {
            many.due("remove of triple " + i, x -> x.remove(i % 64, 9, i / 64), 1);
        }
        many.due("remove of triple 500", x -> x.remove(500 % 64, 9, 500 / 64), 0);
    }

    private static void removeWhatIsWrong() {
        int[] wrong = {-1, 64, -8, -9, -64, 65, MIN, MAX};
        new Edge("Promise 3, \"BAD\", of none").dueAtEachPlace("remove", Counted::remove, 0, BAD, wrong);
        new Edge("Promise 3, \"BAD\", not 0 or 1", x -> {
            x.insert(0, 0, 0);
            x.insert(63, 63, 63);
            x.insert(63, 0, 0);
            x.insert(0, 63, 63);
        })
            .dueAtEachPlace("remove", Counted::remove, 0, BAD, wrong)
            .dueAtEachPlace("remove", Counted::remove, 63, BAD, wrong)
            .due("remove(-1, -1, -1)", x -> x.remove(-1, -1, -1), BAD)
            .due("remove(64, 64, 64)", x -> x.remove(64, 64, 64), BAD);
        new Edge("Promise 3, \"BAD\", and no triple goes", x -> {
            x.insert(0, 0, 0);
            x.insert(63, 63, 63);
            x.remove(64, 0, 0);
            x.remove(63, 63, 127);
            x.remove(MIN, 0, 0);
            x.remove(MAX, 63, 63);
        }).due("triples()", Counted::triples, 2);
    }

    private static void triplesNoneAndMany() {
        new Edge("Promise 4, none").due("triples()", Counted::triples, 0);
        for (int count : new int[] {1, 2, 63, 64, 65, 255, 256, 257, 510, 511}) {
            new Edge("Promise 4, many", x -> Build.triplesWith(x, 3, count))
                .due("triples() of " + count, Counted::triples, count);
        }
        for (int left : new int[] {0, 1, 2}) {
            new Edge("Promise 4, many and then few", x -> {
                Build.triplesWith(x, 3, 255);
                for (int i = 254; i >= left; i--) {
                    x.remove(i % 64, 3, i / 64);
                }
            }).due("triples() of " + left, Counted::triples, left);
        }
    }

    /** All that is made by 511 calls, and one call more. */
    private static void callsUpTo512() {
        new Edge("\"At most 512 calls\", 511 of them insert()", x -> Build.triplesWith(x, 3, 511))
            .due("insert of another", x -> x.insert(63, 3, 7), 1)
            .due("insert of the first one", x -> x.insert(0, 3, 0), 0)
            .due("insert of a wrong one", x -> x.insert(MIN, 3, 0), BAD)
            .due("remove of the last one", x -> x.remove(62, 3, 7), 1)
            .due("remove of another", x -> x.remove(63, 3, 7), 0)
            .due("pattern(-1, -2, -3)", x -> x.pattern(-1, -2, -3), 0)
            .due("solutions()", Counted::solutions, 1);
        new Edge("\"At most 512 calls\", 510 of them insert()", x -> {
            Build.triplesWith(x, 3, 510);
            x.pattern(-1, -2, -3);
        })
            .due("estimate(0, 0)", x -> x.estimate(0, 0), 510)
            .due("estimate(0, 1)", x -> x.estimate(0, 1), 8)
            .due("cost()", Counted::cost, 510)
            .due("solutions()", Counted::solutions, 510);
        new Edge("\"At most 512 calls\", 509 of them insert()", x -> {
            Build.triplesWith(x, 3, 509);
            x.pattern(-1, -2, -3);
            x.use(0);
        })
            .due("size(1)", x -> x.size(1), 509)
            .due("rows()", Counted::rows, 509)
            .due("drop()", Counted::drop, 1);
        new Edge("\"At most 512 calls\", 509 of them insert(), and solutions()", x -> {
            Build.triplesWith(x, 3, 509);
            x.pattern(-3, -2, -1);
            x.solutions();
        })
            .due("value(508, -1)", x -> x.value(508, -1), 7)
            .due("value(508, -3)", x -> x.value(508, -3), 508 % 64)
            .due("value(509, -1)", x -> x.value(509, -1), BAD);
        new Edge("\"At most 512 calls\", 511 of them pattern()", x -> {
            for (int i = 0; i < 511; i++) {
                x.pattern(-1, i % 64, -2);
            }
        }).due("clear()", Counted::clear, 6);
    }

    private static void patternMakesTheOrderEmpty() {
        for (int count = 1; count <= 5; count++) {
            int used = count;
            new Edge("Promise 5, \"the order that is made becomes empty\", of " + count, x -> {
                x.insert(0, 0, 0);
                Build.patternsOf(x, 0, 0, 0, 0, 0);
                for (int i = 0; i < used; i++) {
                    x.use(i);
                }
                x.pattern(-6, 0, -6);
            })
                .due("drop()", Counted::drop, 0)
                .due("size(1)", x -> x.size(1), BAD)
                .due("rows()", Counted::rows, 0)
                .due("use(0)", x -> x.use(0), 1)
                .due("use(5)", x -> x.use(5), 1);
        }
    }

    private static void patternOfNoItem() {
        int[] none = {-9, 64, -10, 65, -64, MIN, MAX};
        Edge refused = new Edge("Promise 5, \"BAD when an item is none\"", x -> {
            x.insert(0, 0, 0);
            Build.patternsOf(x, 0, 0);
            Build.useAll(x, 1, 0);
        });
        refused.dueAtEachPlace("pattern", Counted::pattern, -1, BAD, none);
        refused.dueAtEachPlace("pattern", Counted::pattern, 0, BAD, none);
        refused.due("pattern(-8, 63, -1)", x -> x.pattern(-8, 63, -1), 2);
        for (int item : none) {
            new Edge("Promise 5, \"BAD when an item is none\", and nothing comes or goes", x -> {
                x.insert(0, 0, 0);
                Build.patternsOf(x, 0, 0);
                Build.useAll(x, 1, 0);
                x.pattern(item, 0, 0);
                x.pattern(0, item, 0);
                x.pattern(0, 0, item);
            })
                .due("drop() after " + item, Counted::drop, 2)
                .due("size(2) after " + item, x -> x.size(2), 1)
                .due("clear() after " + item, Counted::clear, 2)
                .due("pattern(0, 0, 0) after " + item, x -> x.pattern(0, 0, 0), 2);
        }
    }

    private static void patternWhenFull() {
        new Edge("Promise 5, \"FULL\", with five", x -> Build.patternsOf(x, 0, 0, 0, 0, 0))
            .due("pattern(1, -1, 1)", x -> x.pattern(1, -1, 1), 5);
        new Edge("Promise 5, \"FULL\", with six", x -> Build.patternsOf(x, 0, 0, 0, 0, 0, 0))
            .due("pattern(1, -1, 1)", x -> x.pattern(1, -1, 1), FULL)
            .dueAtEachPlace("pattern", Counted::pattern, 1, FULL, 0, 63, -1, -8)
            .dueAtEachPlace("pattern", Counted::pattern, 1, BAD, -9, 64, MIN, MAX);
        new Edge("Promise 5, \"FULL\", and nothing comes or goes", x -> {
            x.insert(0, 0, 0);
            Build.patternsOf(x, 0, 0, 0, 0, 0, 0);
            Build.useAll(x, 4, 2);
            x.pattern(1, 1, 1);
            x.pattern(-1, -1, -1);
        })
            .due("drop()", Counted::drop, 2)
            .due("size(2)", x -> x.size(2), 1)
            .due("cost()", Counted::cost, 6)
            .due("estimate(6, 0)", x -> x.estimate(6, 0), BAD)
            .due("clear()", Counted::clear, 6);
    }

    private static void clear() {
        for (int count = 0; count <= 7; count++) {
            int[] parts = new int[count];
            new Edge("Promise 6, \"how many there were\"", x -> Build.patternsOf(x, parts))
                .due("clear() of " + count, Counted::clear, Math.min(count, 6));
            new Edge("Promise 6, \"no patterns any more, and an empty order\", of " + count, x -> {
                x.insert(0, 0, 0);
                Build.patternsOf(x, parts);
                Build.useAll(x, 5, 4, 3, 2, 1, 0);
                x.clear();
            })
                .due("clear()", Counted::clear, 0)
                .due("drop()", Counted::drop, 0)
                .due("estimate(0, 0)", x -> x.estimate(0, 0), BAD)
                .due("plan(0)", x -> x.plan(0), BAD)
                .due("cost()", Counted::cost, 0)
                .due("use(0)", x -> x.use(0), BAD)
                .due("size(1)", x -> x.size(1), BAD)
                .due("rows()", Counted::rows, 0)
                .due("solutions()", Counted::solutions, 1)
                .due("triples()", Counted::triples, 1)
                .due("pattern(-1, -1, -1)", x -> x.pattern(-1, -1, -1), 0);
        }
        new Edge("Promise 6, \"an empty order\", for new patterns too", x -> {
            Build.patternsOf(x, 0, 0);
            x.use(1);
            x.clear();
            Build.patternsOf(x, 0, 0);
        })
            .due("use(1)", x -> x.use(1), 1)
            .due("drop()", Counted::drop, 0);
    }

    private static void useNoSuch() {
        for (int count = 0; count <= 6; count++) {
            int[] parts = new int[count];
            Edge edge = new Edge("Promise 10, \"BAD when there is none such\", of " + count, x -> Build.patternsOf(x, parts))
                .dueForEach("use(#)", Counted::use, BAD, -1, count, count + 1, 6, 7, 31, 32, 33, 64, -31, -32, -64, MIN, MAX);
            if (count > 0) {
                edge.dueForEach("use(#)", Counted::use, 1, 0, count - 1);
            }
        }
        new Edge("Promise 10, \"BAD when there is none such\", and the order stays", x -> {
            Build.patternsOf(x, 0, 0, 0);
            x.use(2);
            x.use(3);
            x.use(-1);
            x.use(MIN);
            x.use(MAX);
        })
            .due("use(0)", x -> x.use(0), 2)
            .due("drop()", Counted::drop, 1);
    }

    private static void useTwice() {
        int[] order = {3, 0, 5, 1, 4, 2};
        for (int count = 1; count <= 6; count++) {
            int used = count;
            Edge edge = new Edge("Promise 10, \"or it has it already\", " + count + " of six", x -> {
                Build.patternsOf(x, 0, 0, 0, 0, 0, 0);
                for (int i = 0; i < used; i++) {
                    x.use(order[i]);
                }
            });
            for (int i = 0; i < 6; i++) {
                int pattern = order[i];
                edge.due("use(" + pattern + ")", x -> x.use(pattern), i < used ? BAD : used + 1);
            }
            edge.due("drop()", Counted::drop, used);
        }
        new Edge("Promise 10, \"or it has it already\", and the order stays", x -> {
            Build.patternsOf(x, 0, 0, 0);
            x.use(1);
            x.use(1);
            x.use(1);
        })
            .due("use(2)", x -> x.use(2), 2)
            .due("drop()", Counted::drop, 1);
        new Edge("Promise 10, \"or it has it already\", not after drop()", x -> {
            Build.patternsOf(x, 0, 0, 0);
            Build.useAll(x, 0, 1, 2);
            x.drop();
        }).dueForEach("use(#)", Counted::use, 1, 0, 1, 2);
    }

    private static void drop() {
        for (int count = 0; count <= 6; count++) {
            int used = count;
            Edge.Run before = x -> {
                x.insert(0, 0, 0);
                Build.patternsOf(x, 0, 0, 0, 0, 0, 0);
                for (int i = 0; i < used; i++) {
                    x.use(5 - i);
                }
            };
            new Edge("Promise 11, \"how many it had\"", before).due("drop() of " + count, Counted::drop, count);
            new Edge("Promise 11, \"the order that is made is empty\", of " + count, x -> {
                before.on(x);
                x.drop();
            })
                .due("drop()", Counted::drop, 0)
                .due("size(1)", x -> x.size(1), BAD)
                .due("rows()", Counted::rows, 0)
                .due("use(5)", x -> x.use(5), 1)
                .due("use(0)", x -> x.use(0), 1)
                .due("clear()", Counted::clear, 6)
                .due("triples()", Counted::triples, 1);
        }
    }
}
