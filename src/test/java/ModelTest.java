import java.util.Random;

/** Runs of 512 calls on new objects, each answer held against the model's; the seeds are fixed. */
public final class ModelTest {
    private static final int RUNS = 200;
    private static final int CALLS = 512;

    private final JoinPlanner program = new JoinPlanner();
    private final Model model = new Model();
    private final StringBuilder told = new StringBuilder();
    private final Random random;
    private final int run;
    private final int numbers;
    private final int predicates;
    private final int variables;
    private final int filling;
    private final int numbersOf;
    private final int wrongOf;

    private ModelTest(int run) {
        this.run = run;
        random = new Random(run);
        // Every third run has many triples and patterns that share little: it comes to the bounds.
        boolean wide = run % 3 == 0;
        numbers = wide ? pick(16, 24, 64) : pick(2, 3, 5, 8, 16, 64);
        predicates = wide ? pick(1, 2) : pick(1, 2, 4, 64);
        variables = wide ? 8 : pick(2, 3, 5, 8);
        filling = wide ? pick(120, 200, 350) : pick(0, 10, 40, 150, 350);
        numbersOf = wide ? 100 : pick(2, 5, 20);
        wrongOf = pick(10, 40, 1000);
    }

    public static void main(String[] args) {
        for (int run = 0; run < RUNS && Due.allRight(); run++) {
            new ModelTest(run).go();
        }
        Due.end();
    }

    private int pick(int... choices) {
        return choices[random.nextInt(choices.length)];
    }

    private void go() {
        for (int call = 0; call < CALLS && Due.allRight(); call++) {
            if (call < filling) {
                insert();
            } else {
                any();
            }
        }
        if (!Due.allRight()) {
            System.out.println("run " + run + ": " + told);
        }
    }

    private void due(String call, long got, long want) {
        told.append(call).append(" = ").append(want).append("; ");
        Due.is("run " + run + ": " + call, got, want);
    }

    private boolean goesWrong() {
        return random.nextInt(wrongOf) == 0;
    }

    private int number(int below) {
        return goesWrong() ? pick(-1, 64, -9, Integer.MIN_VALUE, Integer.MAX_VALUE) : random.nextInt(below);
    }

    private int item(int below) {
        return random.nextInt(numbersOf) == 0 ? number(below) : variable();
    }

    private int variable() {
        return goesWrong() ? pick(0, -9, 64, -40, Integer.MIN_VALUE, Integer.MAX_VALUE) : -1 - random.nextInt(variables);
    }

    private int patternNumber() {
        return goesWrong() ? pick(-1, 6, 7, 32, Integer.MIN_VALUE, Integer.MAX_VALUE) : random.nextInt(6);
    }

    private void insert() {
        int a = number(numbers);
        int b = number(predicates);
        int c = number(numbers);
        due("insert(" + a + ", " + b + ", " + c + ")", program.insert(a, b, c), model.insert(a, b, c));
    }

    private void remove() {
        int a = number(numbers);
        int b = number(predicates);
        int c = number(numbers);
        due("remove(" + a + ", " + b + ", " + c + ")", program.remove(a, b, c), model.remove(a, b, c));
    }

    private void pattern() {
        int a = item(numbers);
        int b = random.nextBoolean() ? item(predicates) : number(predicates);
        int c = item(numbers);
        due("pattern(" + a + ", " + b + ", " + c + ")", program.pattern(a, b, c), model.pattern(a, b, c));
    }

    private void estimate() {
        int pattern = patternNumber();
        int known = random.nextBoolean() ? random.nextInt(256) : random.nextInt();
        due("estimate(" + pattern + ", " + known + ")", program.estimate(pattern, known), model.estimate(pattern, known));
    }

    private void plan() {
        int k = patternNumber();
        due("plan(" + k + ")", program.plan(k), model.plan(k));
    }

    private void use() {
        int pattern = patternNumber();
        due("use(" + pattern + ")", program.use(pattern), model.use(pattern));
    }

    private void size() {
        int k = patternNumber() + 1;
        due("size(" + k + ")", program.size(k), model.size(k));
    }

    /** Also the values, whole: they are what a wrong join or sort shows in. */
    private void solutions() {
        int count = model.solutions();
        due("solutions()", program.solutions(), count);
        if (count > 0 && count < 100) {
            for (int i = 0; i < count; i++) {
                for (int variable = -1; variable >= -8; variable--) {
                    Due.is("run " + run + ": value(" + i + ", " + variable + ")",
                        program.value(i, variable), model.value(i, variable));
                }
            }
        }
        for (int i = 0; i < 10; i++) {
            value(count);
        }
    }

    private void value(int count) {
        int i = goesWrong() ? pick(-1, count, Integer.MIN_VALUE, Integer.MAX_VALUE) : random.nextInt(Math.max(count, 1));
        int variable = variable();
        due("value(" + i + ", " + variable + ")", program.value(i, variable), model.value(i, variable));
    }

    private void any() {
        switch (random.nextInt(100)) {
            case 0, 1, 2, 3, 4, 5, 6, 7 -> insert();
            case 8, 9, 10, 11, 12 -> remove();
            case 13, 14 -> due("triples()", program.triples(), model.triples());
            case 15, 16, 17, 18, 19 -> pattern();
            case 20 -> due("clear()", program.clear(), model.clear());
            case 21, 22 -> due("drop()", program.drop(), model.drop());
            case 23, 24, 25, 26, 27, 28, 29, 30, 31, 32, 33 -> estimate();
            case 34, 35, 36, 37, 38, 39, 40 -> plan();
            case 41, 42, 43, 44 -> due("cost()", program.cost(), model.cost());
            case 45, 46, 47, 48, 49, 50 -> due("rows()", program.rows(), model.rows());
            case 51, 52, 53, 54, 55, 56 -> solutions();
            case 57, 58, 59, 60, 61, 62, 63, 64, 65, 66, 67 -> size();
            case 68, 69, 70, 71, 72, 73, 74, 75, 76, 77 -> value(8);
            default -> use();
        }
    }
}
