/** A new JoinPlanner whose calls are counted: an object is used for at most 512 of them. */
final class Counted {
    static final int MOST_CALLS = 512;

    private final JoinPlanner planner = new JoinPlanner();
    private int calls = 0;

    int calls() {
        return calls;
    }

    int insert(int a, int b, int c) {
        calls++;
        return planner.insert(a, b, c);
    }

    int remove(int a, int b, int c) {
        calls++;
        return planner.remove(a, b, c);
    }

    int triples() {
        calls++;
        return planner.triples();
    }

    int pattern(int a, int b, int c) {
        calls++;
        return planner.pattern(a, b, c);
    }

    int clear() {
        calls++;
        return planner.clear();
    }

    int estimate(int pattern, int known) {
        calls++;
        return planner.estimate(pattern, known);
    }

    int plan(int k) {
        calls++;
        return planner.plan(k);
    }

    long cost() {
        calls++;
        return planner.cost();
    }

    int use(int pattern) {
        calls++;
        return planner.use(pattern);
    }

    int drop() {
        calls++;
        return planner.drop();
    }

    long size(int k) {
        calls++;
        return planner.size(k);
    }

    int rows() {
        calls++;
        return planner.rows();
    }

    int solutions() {
        calls++;
        return planner.solutions();
    }

    int value(int i, int variable) {
        calls++;
        return planner.value(i, variable);
    }

    /** So many calls that only ask, and so change no later answer. */
    void ask(int count) {
        for (int i = 0; i < count; i++) {
            switch (i % 8) {
                case 0 -> triples();
                case 1 -> estimate(i / 8 % 6, 255);
                case 2 -> plan(i / 8 % 6);
                case 3 -> cost();
                case 4 -> size(1 + i / 8 % 6);
                // Dear where there are many rows, so not each time.
                case 5 -> askRowsAtFirst(i);
                case 6 -> value(i / 8 % 3, -1);
                default -> value(Integer.MAX_VALUE, Integer.MIN_VALUE);
            }
        }
    }

    private void askRowsAtFirst(int i) {
        if (i < 40) {
            rows();
        } else {
            triples();
        }
    }

    /** So many calls on an object without triples and patterns, by which some come and all go again. */
    void comeAndGo(int count) {
        int cycle = 14;
        for (int i = 0; i < count / cycle; i++) {
            insert(i % 64, 62, 61);
            insert(61, 62, i % 64);
            pattern(-1, 62, -8);
            pattern(-8, 62, -1);
            use(1);
            rows();
            size(1);
            solutions();
            value(0, -1);
            cost();
            drop();
            clear();
            remove(61, 62, i % 64);
            remove(i % 64, 62, 61);
        }
        for (int i = 0; i < count % cycle; i++) {
            triples();
        }
    }
}
