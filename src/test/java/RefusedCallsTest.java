/**
 * A call that is refused, or that finds nothing to do, changes nothing: what can be asked afterwards answers as on an
 * object that never had the call. Only value() is BAD after some of them, as the document says.
 */
public final class RefusedCallsTest {
    private static final int BAD = -1;
    private static final int FULL = -3;
    private static final int MIN = Integer.MIN_VALUE;
    private static final int MAX = Integer.MAX_VALUE;

    private RefusedCallsTest() {
    }

    public static void main(String[] args) {
        Edge.Run[] states = {x -> { }, RefusedCallsTest::some, RefusedCallsTest::six, RefusedCallsTest::tooManyRows};
        for (int i = 0; i < states.length; i++) {
            wrongTriples(i, states[i]);
            wrongPatterns(i, states[i]);
            wrongQuestions(i, states[i]);
        }
        refused("six patterns: pattern(-1, 0, -2)", RefusedCallsTest::six, x -> x.pattern(-1, 0, -2), FULL);
        refused("six patterns: pattern(0, 0, 0)", RefusedCallsTest::six, x -> x.pattern(0, 0, 0), FULL);
        nothingToDo(RefusedCallsTest::some);
        nothingToDo(RefusedCallsTest::six);
        fullOfTriples();
        Due.end();
    }

    private static void some(Counted x) {
        x.insert(1, 0, 2);
        x.insert(2, 0, 3);
        x.insert(2, 0, 4);
        x.insert(63, 0, 63);
        x.insert(0, 0, 0);
        x.pattern(-1, 0, -2);
        x.pattern(-2, 0, -3);
        x.pattern(-1, -4, -1);
        Build.useAll(x, 2, 0);
    }

    private static void six(Counted x) {
        some(x);
        x.pattern(-8, 0, 4);
        x.pattern(63, 0, 63);
        x.pattern(-5, 0, -8);
        Build.useAll(x, 2, 5, 0);
    }

    private static void tooManyRows(Counted x) {
        Build.product(x, 113, 176);
        Build.useAll(x, 1);
    }

    private static void refused(String name, Edge.Run before, Edge.Call call, long answer) {
        Counted without = new Counted();
        before.on(without);
        Counted with = new Counted();
        before.on(with);
        Due.is("refused, " + name, call.on(with), answer);
        Due.is("refused, " + name + ", again", call.on(with), answer);
        String due = Told.all(without);
        String got = Told.all(with);
        Due.holds("refused, " + name + ": afterwards " + got + ", due is " + due, got.equals(due));
    }

    private static void wrongTriples(int state, Edge.Run before) {
        int[][] wrong = {{-1, 0, 0}, {64, 0, 0}, {0, -1, 0}, {0, 64, 0}, {0, 0, -1}, {0, 0, 64}, {MIN, 0, 0}, {0, MIN, 0},
            {0, 0, MIN}, {MAX, 0, 0}, {0, MAX, 0}, {0, 0, MAX}, {MIN, MIN, MIN}, {MAX, MAX, MAX}, {0, -1, 64}, {1, -64, 2}};
        for (int[] each : wrong) {
            String name = "state " + state + ": (" + each[0] + ", " + each[1] + ", " + each[2] + ")";
            refused(name + " by insert", before, x -> x.insert(each[0], each[1], each[2]), BAD);
            refused(name + " by remove", before, x -> x.remove(each[0], each[1], each[2]), BAD);
        }
    }

    private static void wrongPatterns(int state, Edge.Run before) {
        int[][] wrong = {{-9, 0, 0}, {64, 0, 0}, {0, -9, 0}, {0, 64, 0}, {0, 0, -9}, {0, 0, 64}, {MIN, -1, -1}, {-1, MIN, -1},
            {-1, -1, MIN}, {MAX, -1, -1}, {-1, MAX, -1}, {-1, -1, MAX}, {MIN, MIN, MIN}, {MAX, MAX, MAX}};
        for (int[] each : wrong) {
            String name = "state " + state + ": pattern(" + each[0] + ", " + each[1] + ", " + each[2] + ")";
            refused(name, before, x -> x.pattern(each[0], each[1], each[2]), BAD);
        }
    }

    private static void wrongQuestions(int state, Edge.Run before) {
        for (int wrong : new int[] {-1, 6, 7, 32, 64, MIN, MIN + 1, MAX - 1, MAX}) {
            String name = "state " + state + ", " + wrong;
            refused(name + ": use", before, x -> x.use(wrong), BAD);
            refused(name + ": plan", before, x -> x.plan(wrong), BAD);
            refused(name + ": size", before, x -> x.size(wrong), BAD);
            refused(name + ": estimate", before, x -> x.estimate(wrong, wrong), BAD);
            refused(name + ": value", before, x -> x.value(wrong, wrong), BAD);
        }
        refused("state " + state + ": size(0)", before, x -> x.size(0), BAD);
    }

    private static void nothingToDo(Edge.Run before) {
        refused("insert(63, 0, 63), which is there", before, x -> x.insert(63, 0, 63), 0);
        refused("insert(0, 0, 0), which is there", before, x -> x.insert(0, 0, 0), 0);
        refused("remove(63, 63, 63), which is not there", before, x -> x.remove(63, 63, 63), 0);
        refused("remove(2, 0, 5), which is not there", before, x -> x.remove(2, 0, 5), 0);
        refused("use(2), which the order has already", before, x -> x.use(2), BAD);
        refused("use(0), which the order has already", before, x -> x.use(0), BAD);
    }

    /** Beyond the 512 calls of an object: the refused triple is not seen by any pattern. */
    private static void fullOfTriples() {
        JoinPlanner x = new JoinPlanner();
        for (int i = 0; i < 640; i++) {
            x.insert(i % 64, 1 + i / 64, 0);
        }
        x.pattern(-1, 0, -2);
        x.pattern(-1, -3, -2);
        Due.is("refused, 640 triples: insert(0, 0, 0)", x.insert(0, 0, 0), FULL);
        Due.is("refused, 640 triples: insert(63, 63, 63)", x.insert(63, 63, 63), FULL);
        Due.is("refused, 640 triples: estimate(0, 0)", x.estimate(0, 0), 0);
        Due.is("refused, 640 triples: estimate(1, 0)", x.estimate(1, 0), 640);
        Due.is("refused, 640 triples: estimate(1, 2)", x.estimate(1, 2), 640);
        Due.is("refused, 640 triples: solutions()", x.solutions(), 0);
    }
}
