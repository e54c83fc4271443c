/**
 * What each call changes, and that it changes nothing else: afterwards the object answers as one that came to the same
 * triples, patterns and order by another way.
 */
public final class ChangesTest {
    private static final int BAD = -1;
    private static final int NO = -2;
    private static final int[][] TRIPLES = {
        {1, 0, 2}, {2, 0, 3}, {2, 0, 4}, {4, 0, 4}, {63, 1, 63}, {0, 1, 0}, {3, 1, 63}, {2, 1, 4}};
    private static final int[][] PATTERNS = {
        {-1, 0, -2}, {-2, 0, -3}, {-4, 1, -4}, {-3, 0, 4}, {-8, -5, 63}, {2, -6, 4}};

    private ChangesTest() {
    }

    public static void main(String[] args) {
        insertBringsATriple();
        removeTakesATriple();
        patternBringsAPattern();
        clearTakesPatternsAndOrder();
        useChangesTheOrderAlone();
        useAppends();
        dropChangesTheOrderAlone();
        questionsChangeNothing();
        questionsChangeNoValue();
        solutionsChangesValueAlone();
        objectsDoNotShare();
        Due.end();
    }

    private static void insertAll(Counted x, int from, int end) {
        for (int i = from; i < end; i++) {
            Due.is("insert of triple " + i, x.insert(TRIPLES[i][0], TRIPLES[i][1], TRIPLES[i][2]), 1);
        }
    }

    private static void patternAll(Counted x, int from, int end) {
        for (int i = from; i < end; i++) {
            Due.is("pattern " + i, x.pattern(PATTERNS[i][0], PATTERNS[i][1], PATTERNS[i][2]), i);
        }
    }

    private static Counted state(int triples, int patterns, int... order) {
        Counted x = new Counted();
        insertAll(x, 0, triples);
        patternAll(x, 0, patterns);
        Build.useAll(x, order);
        return x;
    }

    /** What the object knows from earlier questions must not outlive a change, so all is asked before it too. */
    private static Counted asked(Counted x) {
        Told.ofOrder(x);
        Told.ofPatterns(x);
        return x;
    }

    private static void same(String name, Counted got, Counted due) {
        String toldDue = Told.all(due);
        String toldGot = Told.all(got);
        Due.holds(name + ": told " + toldGot + ", due is " + toldDue, toldGot.equals(toldDue));
        Due.holds(name + ": within 512 calls", got.calls() <= Counted.MOST_CALLS);
    }

    private static void insertBringsATriple() {
        for (int before = 0; before < TRIPLES.length; before++) {
            Counted x = asked(state(before, 6, 4, 0, 1));
            insertAll(x, before, before + 1);
            same("Promise 2, \"a triple comes\", " + before, x, state(before + 1, 6, 4, 0, 1));
        }
    }

    private static void removeTakesATriple() {
        for (int gone = 0; gone < TRIPLES.length; gone++) {
            Counted x = asked(state(TRIPLES.length, 6, 2, 3));
            Due.is("remove of triple " + gone, x.remove(TRIPLES[gone][0], TRIPLES[gone][1], TRIPLES[gone][2]), 1);
            Counted due = new Counted();
            insertAll(due, gone + 1, TRIPLES.length);
            insertAll(due, 0, gone);
            patternAll(due, 0, 6);
            Build.useAll(due, 2, 3);
            same("Promise 3, \"a triple goes\", " + gone, x, due);
        }
        Counted all = asked(state(TRIPLES.length, 6, 5, 2));
        for (int[] triple : TRIPLES) {
            Due.is("remove of all", all.remove(triple[0], triple[1], triple[2]), 1);
        }
        same("Promise 3, \"a triple goes\", all of them", all, state(0, 6, 5, 2));
    }

    private static void patternBringsAPattern() {
        for (int before = 0; before < PATTERNS.length; before++) {
            Counted x = state(TRIPLES.length, before);
            for (int i = before - 1; i >= 0; i--) {
                x.use(i);
            }
            asked(x);
            patternAll(x, before, before + 1);
            same("Promise 5, \"a pattern more\" and an empty order, " + before, x, state(TRIPLES.length, before + 1));
        }
    }

    private static void clearTakesPatternsAndOrder() {
        for (int before = 0; before <= PATTERNS.length; before++) {
            Counted x = state(TRIPLES.length, before);
            for (int i = 0; i < before; i++) {
                x.use(i);
            }
            asked(x);
            Due.is("Promise 6, \"how many there were\"", x.clear(), before);
            same("Promise 6, \"no patterns any more, and an empty order\", " + before, x, state(TRIPLES.length, 0));
        }
        Counted again = asked(state(TRIPLES.length, 6, 1, 5, 3));
        again.clear();
        patternAll(again, 0, 6);
        same("Promise 6, and the same patterns again", again, state(TRIPLES.length, 6));
    }

    private static void useChangesTheOrderAlone() {
        int[] order = {3, 0, 5, 1, 4, 2};
        String due = Told.ofPatterns(state(TRIPLES.length, 6));
        for (int count = 1; count <= order.length; count++) {
            Counted x = asked(state(TRIPLES.length, 6));
            for (int i = 0; i < count; i++) {
                Due.is("Promise 10, \"how many it has\"", x.use(order[i]), i + 1);
            }
            Due.holds("Promise 10, the order alone, " + count, Told.ofPatterns(x).equals(due));
            Due.is("Promise 10, the order alone: drop()", x.drop(), count);
            Due.is("Promise 10, the order alone: clear()", x.clear(), 6);
            Due.is("Promise 10, the order alone: triples()", x.triples(), TRIPLES.length);
        }
    }

    /** The pattern comes last: those before it keep their sizes, and what comes with it is its own. */
    private static void useAppends() {
        Counted x = state(TRIPLES.length, 6);
        int[] order = {1, 3, 0, 4, 5, 2};
        // Pattern 1 has 4 triples; 3 has 2, both with another number for -3; 0 has 4, three different ones for -2.
        long[] sizes = {4, 4, 8, 16, 32, 128};
        // In truth 4, then 3, 3, 3 * 2, 6 * 2 and 12 * 2 rows come.
        int[] rows = {4, 7, 10, 16, 28, 52};
        for (int i = 0; i < order.length; i++) {
            Due.is("Promise 10, \"a pattern more\": use(" + order[i] + ")", x.use(order[i]), i + 1);
            for (int k = 1; k <= i + 1; k++) {
                Due.is("Promise 10, \"a pattern more\", of " + (i + 1) + ": size(" + k + ")", x.size(k), sizes[k - 1]);
            }
            Due.is("Promise 10, \"a pattern more\": size(" + (i + 2) + ")", x.size(i + 2), BAD);
            Due.is("Promise 10, \"a pattern more\", of " + (i + 1) + ": rows()", x.rows(), rows[i]);
        }
    }

    private static void dropChangesTheOrderAlone() {
        Counted x = asked(state(TRIPLES.length, 6, 3, 0, 5, 1, 4, 2));
        Due.is("Promise 11, \"how many it had\"", x.drop(), 6);
        same("Promise 11, \"the order that is made is empty\"", x, state(TRIPLES.length, 6));
        x = asked(state(TRIPLES.length, 6, 3, 0, 5, 1, 4, 2));
        x.drop();
        Build.useAll(x, 2, 4);
        same("Promise 11, and another order", x, state(TRIPLES.length, 6, 2, 4));
    }

    private static Edge.Run[] questions() {
        return new Edge.Run[] {x -> x.triples(), x -> x.estimate(0, 255), x -> x.estimate(5, 0), x -> x.plan(0),
            x -> x.plan(5), x -> x.cost(), x -> x.size(1), x -> x.size(3), x -> x.rows(), x -> x.value(0, -1)};
    }

    private static void questionsChangeNothing() {
        Edge.Run[] questions = questions();
        for (int i = 0; i < questions.length; i++) {
            Counted x = state(TRIPLES.length, 6, 4, 1, 2);
            questions[i].on(x);
            questions[i].on(x);
            same("question " + i + " changes nothing", x, state(TRIPLES.length, 6, 4, 1, 2));
        }
        Counted all = asked(asked(state(TRIPLES.length, 6, 4, 1, 2)));
        same("all questions change nothing", all, state(TRIPLES.length, 6, 4, 1, 2));
    }

    private static void questionsChangeNoValue() {
        Edge.Run[] questions = questions();
        for (int i = 0; i < questions.length; i++) {
            Counted x = state(TRIPLES.length, 4, 3, 1);
            Due.is("solutions()", x.solutions(), 6);
            String due = values(x, 6);
            questions[i].on(x);
            Due.holds("question " + i + " changes no value", values(x, 6).equals(due));
        }
        Counted x = state(TRIPLES.length, 4, 3, 1);
        x.solutions();
        String due = values(x, 6);
        x.drop();
        Build.useAll(x, 2, 0);
        x.rows();
        Due.holds("another order changes no value", values(x, 6).equals(due));
    }

    private static String values(Counted x, int count) {
        StringBuilder told = new StringBuilder();
        for (int i = -1; i <= count; i++) {
            for (int variable = -9; variable <= 0; variable++) {
                told.append(x.value(i, variable)).append(' ');
            }
        }
        return told.toString();
    }

    /** solutions() is a question too, but for what value() tells afterwards. */
    private static void solutionsChangesValueAlone() {
        Counted x = state(TRIPLES.length, 6, 4, 1, 2);
        x.solutions();
        x.solutions();
        same("solutions() changes value() alone", x, state(TRIPLES.length, 6, 4, 1, 2));
        Counted many = new Counted();
        Build.product(many, 113, 176);
        Due.is("rows() of an empty order", many.rows(), 0);
        Due.is("solutions()", many.solutions(), NO);
        Due.is("rows() of an empty order after NO", many.rows(), 0);
        Due.is("drop() after NO", many.drop(), 0);
        Due.is("use(0) after NO", many.use(0), 1);
        Due.is("rows() after NO", many.rows(), 113);
        Due.is("use(1) after NO", many.use(1), 2);
        Due.is("rows() of too many", many.rows(), NO);
        Due.is("drop() of too many", many.drop(), 2);
        Due.is("triples() after NO", many.triples(), 289);
        Due.is("clear() after NO", many.clear(), 2);
    }

    private static void objectsDoNotShare() {
        Counted one = state(TRIPLES.length, 6, 4, 1, 2);
        Counted two = state(3, 2, 1);
        String due = Told.all(state(TRIPLES.length, 6, 4, 1, 2));
        asked(two);
        two.insert(1, 1, 1);
        two.remove(2, 0, 3);
        two.clear();
        two.solutions();
        Due.holds("one object's calls change no other one", Told.all(one).equals(due));
    }
}
