import java.util.Arrays;

/** Each promise by itself: ordinary inputs, the edges that the document names, and wrong inputs. */
public final class PromisesTest {
    private static final int BAD = -1;
    private static final int NO = -2;
    private static final int FULL = -3;
    private static final long MOST = 1_000_000_000_000L;
    private static final int[] NO_NUMBERS = {-1, 64, -8, -9, 65, Integer.MIN_VALUE, Integer.MAX_VALUE};
    private static final int[] NO_ITEMS = {-9, 64, 65, -64, Integer.MIN_VALUE, Integer.MAX_VALUE};
    private static final int[] FAR = {-1, -2, 6, 7, 32, 64, Integer.MIN_VALUE, Integer.MAX_VALUE};

    private PromisesTest() {
    }

    public static void main(String[] args) {
        constants();
        newObject();
        insert();
        insertWhenFull();
        remove();
        triples();
        pattern();
        patternHasItsItems();
        clear();
        estimate();
        numbersAtAnyPlaces();
        estimateIsRoundedUpOnce();
        plan();
        planOfEqualCosts();
        cost();
        costAtMost();
        use();
        drop();
        size();
        sizeAtMost();
        rows();
        rowsAtMost();
        solutions();
        solutionsOfOneVariableAtTwoPlaces();
        solutionsAtMost();
        solutionsGoByThePlan();
        value();
        valueAfterOtherCalls();
        valuesAreSorted();
        Due.end();
    }

    private static void constants() {
        Due.is("BAD", JoinPlanner.BAD, BAD);
        Due.is("NO", JoinPlanner.NO, NO);
        Due.is("FULL", JoinPlanner.FULL, FULL);
    }

    private static void newObject() {
        JoinPlanner x = new JoinPlanner();
        Due.is("1: triples()", x.triples(), 0);
        Due.is("1: clear()", x.clear(), 0);
        Due.is("1: drop()", x.drop(), 0);
        Due.is("1: estimate(0, 0)", x.estimate(0, 0), BAD);
        Due.is("1: plan(0)", x.plan(0), BAD);
        Due.is("1: cost()", x.cost(), 0);
        Due.is("1: use(0)", x.use(0), BAD);
        Due.is("1: size(1)", x.size(1), BAD);
        Due.is("1: rows()", x.rows(), 0);
        Due.is("1: value before solutions()", x.value(0, -1), BAD);
        Due.is("1: solutions()", x.solutions(), 1);
        Due.is("1: value of no patterns", x.value(0, -1), BAD);
        x.insert(1, 2, 3);
        x.pattern(-1, 2, -2);
        x.use(0);
        JoinPlanner other = new JoinPlanner();
        Due.is("1: another one's triples()", other.triples(), 0);
        Due.is("1: another one's clear()", other.clear(), 0);
    }

    private static void insert() {
        JoinPlanner x = new JoinPlanner();
        Due.is("2: insert(0, 0, 0)", x.insert(0, 0, 0), 1);
        Due.is("2: insert(63, 63, 63)", x.insert(63, 63, 63), 1);
        Due.is("2: insert(1, 2, 3)", x.insert(1, 2, 3), 1);
        Due.is("2: insert(3, 1, 2)", x.insert(3, 1, 2), 1);
        Due.is("2: insert(2, 3, 1)", x.insert(2, 3, 1), 1);
        Due.is("2: insert(1, 2, 3) again", x.insert(1, 2, 3), 0);
        Due.is("2: insert(63, 63, 63) again", x.insert(63, 63, 63), 0);
        for (int wrong : NO_NUMBERS) {
            Due.is("2: insert(" + wrong + ", 0, 0)", x.insert(wrong, 0, 0), BAD);
            Due.is("2: insert(0, " + wrong + ", 0)", x.insert(0, wrong, 0), BAD);
            Due.is("2: insert(0, 0, " + wrong + ")", x.insert(0, 0, wrong), BAD);
        }
        Due.is("2: triples()", x.triples(), 5);
        x.pattern(-1, 2, 3);
        Due.is("2: insert keeps the order: use(0)", x.use(0), 1);
        Due.is("2: rows() before", x.rows(), 1);
        Due.is("2: insert(4, 2, 3)", x.insert(4, 2, 3), 1);
        Due.is("2: rows() after", x.rows(), 2);
    }

    /** The bound lies beyond the 512 calls of an object; it is kept all the same. */
    private static void insertWhenFull() {
        JoinPlanner x = new JoinPlanner();
        for (int i = 0; i < 640; i++) {
            int n = i * 217 % 640;
            Due.is("2: insert of triple " + n, x.insert(n % 64, n / 64, n % 7), 1);
        }
        for (int i = 0; i < 640; i++) {
            Due.is("2: insert of triple " + i + " again", x.insert(i % 64, i / 64, i % 7), 0);
        }
        Due.is("2: insert of one that is there when full", x.insert(0, 0, 0), 0);
        Due.is("2: insert of a wrong one when full", x.insert(0, 0, 64), BAD);
        Due.is("2: insert when full", x.insert(63, 63, 63), FULL);
        Due.is("2: triples() when full", x.triples(), 640);
        x.pattern(-1, -2, -3);
        Due.is("2: solutions() when full", x.solutions(), 640);
        Due.is("2: remove when full", x.remove(63, 9, 639 % 7), 1);
        Due.is("2: insert after remove", x.insert(63, 63, 63), 1);
        Due.is("2: insert when full again", x.insert(62, 63, 63), FULL);
    }

    private static void remove() {
        JoinPlanner x = new JoinPlanner();
        Due.is("3: remove of none", x.remove(0, 0, 0), 0);
        x.insert(0, 0, 0);
        x.insert(63, 0, 63);
        x.insert(5, 6, 7);
        Due.is("3: remove(7, 6, 5)", x.remove(7, 6, 5), 0);
        Due.is("3: remove(5, 6, 7)", x.remove(5, 6, 7), 1);
        Due.is("3: remove(5, 6, 7) again", x.remove(5, 6, 7), 0);
        for (int wrong : NO_NUMBERS) {
            Due.is("3: remove(" + wrong + ", 0, 0)", x.remove(wrong, 0, 0), BAD);
            Due.is("3: remove(0, " + wrong + ", 0)", x.remove(0, wrong, 0), BAD);
            Due.is("3: remove(0, 0, " + wrong + ")", x.remove(0, 0, wrong), BAD);
        }
        Due.is("3: triples()", x.triples(), 2);
        x.pattern(-1, -2, -3);
        Due.is("3: solutions()", x.solutions(), 2);
        Due.is("3: value(1, -3)", x.value(1, -3), 63);
        Due.is("3: insert(5, 6, 7)", x.insert(5, 6, 7), 1);
        x.use(0);
        Due.is("3: remove(0, 0, 0)", x.remove(0, 0, 0), 1);
        Due.is("3: remove keeps the order: rows()", x.rows(), 2);
        Due.is("3: solutions() after remove", x.solutions(), 2);
        Due.is("3: value(0, -1) after remove", x.value(0, -1), 5);
    }

    private static void triples() {
        JoinPlanner x = new JoinPlanner();
        for (int i = 0; i < 30; i++) {
            x.insert(i, i % 3, 63 - i);
            x.insert(i, i % 3, 63 - i);
            Due.is("4: triples()", x.triples(), i + 1);
        }
        for (int i = 29; i >= 0; i--) {
            x.remove(i, i % 3, 63 - i);
            x.remove(i, i % 3, 63 - i);
            Due.is("4: triples()", x.triples(), i);
        }
    }

    private static void pattern() {
        JoinPlanner x = new JoinPlanner();
        x.insert(1, 2, 3);
        Due.is("5: pattern(-1, -8, 63)", x.pattern(-1, -8, 63), 0);
        Due.is("5: pattern(0, 0, 0)", x.pattern(0, 0, 0), 1);
        x.use(1);
        x.use(0);
        for (int wrong : NO_ITEMS) {
            Due.is("5: pattern(" + wrong + ", 0, 0)", x.pattern(wrong, 0, 0), BAD);
            Due.is("5: pattern(0, " + wrong + ", 0)", x.pattern(0, wrong, 0), BAD);
            Due.is("5: pattern(0, 0, " + wrong + ")", x.pattern(0, 0, wrong), BAD);
        }
        Due.is("5: the order after patterns that were BAD", x.size(2), 0);
        Due.is("5: pattern(-1, -8, 63) again", x.pattern(-1, -8, 63), 2);
        Due.is("5: the order is empty: size(1)", x.size(1), BAD);
        Due.is("5: the order is empty: drop()", x.drop(), 0);
        Due.is("5: use(1)", x.use(1), 1);
        for (int i = 3; i < 6; i++) {
            Due.is("5: pattern(1, 2, 3)", x.pattern(1, 2, 3), i);
        }
        x.use(5);
        Due.is("5: a seventh pattern", x.pattern(1, 2, 3), FULL);
        Due.is("5: a seventh pattern that is none", x.pattern(1, 2, -9), BAD);
        Due.is("5: the order after FULL", x.drop(), 1);
        Due.is("5: clear()", x.clear(), 6);
        Due.is("5: pattern after clear()", x.pattern(-4, 2, -4), 0);
    }

    /** Each pattern keeps its own items at its own places, whatever comes after it. */
    private static void patternHasItsItems() {
        JoinPlanner x = new JoinPlanner();
        int[][] triples = {{1, 40, 50}, {1, 41, 51}, {30, 2, 50}, {31, 2, 51}, {32, 2, 52}, {30, 40, 3}, {31, 41, 3},
            {32, 42, 3}, {33, 43, 3}, {1, 2, 3}, {5, 2, 3}, {1, 5, 3}, {1, 6, 3}, {1, 2, 5}, {1, 2, 6}, {1, 2, 7}};
        for (int[] triple : triples) {
            x.insert(triple[0], triple[1], triple[2]);
        }
        int[][] patterns = {{1, -1, -2}, {-1, 2, -2}, {-1, -2, 3}, {1, 2, -3}, {-3, 2, 3}, {1, -3, 3}};
        int[] due = {8, 8, 8, 4, 2, 3};
        for (int i = 0; i < patterns.length; i++) {
            Due.is("5: " + Arrays.toString(patterns[i]), x.pattern(patterns[i][0], patterns[i][1], patterns[i][2]), i);
            for (int before = 0; before <= i; before++) {
                Due.is("5: triples of pattern " + before, x.estimate(before, 0), due[before]);
            }
        }
        // In pattern 0 five different numbers stand where -1 does, and six where -2 does.
        Due.is("5: -1 at place 1 of pattern 0", x.estimate(0, 0b001), 2);
        Due.is("5: -2 at place 2 of pattern 0", x.estimate(0, 0b010), 2);
        Due.is("5: no -3 in pattern 0", x.estimate(0, 0b100), 8);
        x.clear();
        x.pattern(-3, -1, 51);
        Due.is("5: solutions() of (-3, -1, 51)", x.solutions(), 2);
        Due.is("5: -1 stands at place 1", x.value(0, -1), 2);
        Due.is("5: -3 stands at place 0", x.value(0, -3), 31);
        Due.is("5: -1 stands at place 1, again", x.value(1, -1), 41);
        Due.is("5: -3 stands at place 0, again", x.value(1, -3), 1);
    }

    private static void clear() {
        JoinPlanner x = new JoinPlanner();
        x.insert(1, 2, 3);
        x.pattern(-1, 2, 3);
        x.pattern(1, -2, 3);
        x.use(1);
        Due.is("6: clear()", x.clear(), 2);
        Due.is("6: clear() again", x.clear(), 0);
        Due.is("6: triples()", x.triples(), 1);
        Due.is("6: drop()", x.drop(), 0);
        Due.is("6: plan(0)", x.plan(0), BAD);
        Due.is("6: cost()", x.cost(), 0);
        Due.is("6: estimate(0, 0)", x.estimate(0, 0), BAD);
        Due.is("6: use(0)", x.use(0), BAD);
        Due.is("6: rows()", x.rows(), 0);
        Due.is("6: solutions()", x.solutions(), 1);
        Due.is("6: pattern after clear()", x.pattern(7, -1, 3), 0);
        Due.is("6: solutions() of the new pattern", x.solutions(), 0);
    }

    private static void estimate() {
        JoinPlanner x = new JoinPlanner();
        x.pattern(-1, 5, -8);
        Due.is("7: N is 0", x.estimate(0, 0), 0);
        Due.is("7: N is 0, all known", x.estimate(0, 255), 0);
        for (int i = 0; i < 12; i++) {
            x.insert(i % 4, 5, i);
        }
        x.insert(9, 6, 9);
        Due.is("7: nothing known", x.estimate(0, 0), 12);
        Due.is("7: -1 known", x.estimate(0, 1), 3);
        Due.is("7: -8 known", x.estimate(0, 128), 1);
        Due.is("7: both known", x.estimate(0, 129), 1);
        Due.is("7: variables of other patterns known", x.estimate(0, 126), 12);
        Due.is("7: bits beyond 7", x.estimate(0, ~255), 12);
        Due.is("7: all bits", x.estimate(0, -1), 1);
        Due.is("7: sign and bit 0", x.estimate(0, Integer.MIN_VALUE | 1), 3);
        for (int far : FAR) {
            Due.is("7: estimate(" + far + ", 0)", x.estimate(far, 0), BAD);
        }
        Due.is("7: estimate(1, 0)", x.estimate(1, 0), BAD);
        x.pattern(-3, -3, -3);
        Due.is("7: variables are not looked at", x.estimate(1, 0), 13);
        x.pattern(2, 5, 6);
        Due.is("7: a pattern of numbers alone", x.estimate(2, 255), 1);
        x.pattern(2, 5, 7);
        Due.is("7: a pattern of numbers alone, not there", x.estimate(3, 255), 0);
        Due.is("7: remove(3, 5, 3)", x.remove(3, 5, 3), 1);
        Due.is("7: after remove", x.estimate(0, 1), 3);
    }

    private static void numbersAtAnyPlaces() {
        JoinPlanner x = new JoinPlanner();
        for (int a = 0; a < 4; a++) {
            for (int b = 0; b < 5; b++) {
                for (int c = 0; c < 6; c++) {
                    x.insert(a, b, c);
                }
            }
        }
        int[] due = {120, 30, 24, 6, 20, 5, 4};
        for (int places = 0; places < 7; places++) {
            x.pattern((places & 1) == 0 ? -1 : 2, (places & 2) == 0 ? -2 : 2, (places & 4) == 0 ? -3 : 2);
            Due.is("7: numbers at places " + places, x.estimate(0, 0), due[places]);
            Due.is("7: numbers at places " + places + ", all known", x.estimate(0, 7), 1);
            Due.is("14: numbers at places " + places, x.solutions(), due[places]);
            x.clear();
        }
        for (int known = 0; known < 7; known++) {
            // Each pattern of one triple makes a variable known.
            x.pattern(-1, -2, -3);
            for (int i = 0; i < 3; i++) {
                if ((known >> i & 1) == 1) {
                    x.pattern(i == 0 ? -1 : 2, i == 1 ? -2 : 2, i == 2 ? -3 : 2);
                }
            }
            Due.is("14: variables " + known + " stand in other patterns too", x.solutions(), 120);
            x.clear();
        }
    }

    private static void estimateIsRoundedUpOnce() {
        JoinPlanner x = new JoinPlanner();
        for (int i = 0; i < 50; i++) {
            x.insert(i % 3, i / 3 % 3, i);
        }
        x.pattern(-2, -3, -1);
        x.pattern(-2, -2, -4);
        Due.is("7: 50 / 3", x.estimate(0, 2), 17);
        Due.is("7: 50 / (3 * 3)", x.estimate(0, 6), 6);
        Due.is("7: 50 / (3 * 3 * 50)", x.estimate(0, 7), 1);
        Due.is("7: one variable at two places", x.estimate(1, 2), 6);
    }

    private static void plan() {
        JoinPlanner x = new JoinPlanner();
        for (int i = 0; i < 10; i++) {
            x.insert(i, 0, i);
            x.insert(i, 1, 2 * i);
        }
        x.insert(3, 2, 1);
        x.pattern(-1, 0, -2);
        x.pattern(-2, 1, -3);
        x.pattern(-1, 2, -4);
        // 2, 0, 1 costs 1 + 1 + 1; each order that begins otherwise costs 10 at least.
        Due.is("8: plan(0)", x.plan(0), 2);
        Due.is("8: plan(1)", x.plan(1), 0);
        Due.is("8: plan(2)", x.plan(2), 1);
        Due.is("8: plan(3)", x.plan(3), BAD);
        for (int far : FAR) {
            Due.is("8: plan(" + far + ")", x.plan(far), BAD);
        }
        x.use(1);
        Due.is("8: plan(0) whatever is made", x.plan(0), 2);
        for (int i = 10; i < 40; i++) {
            x.insert(i, 2, i);
        }
        // Now 0, 1, 2 and 1, 0, 2 cost 10 + 10 + 10, and so does no other.
        Due.is("8: plan(0) after insert", x.plan(0), 0);
        Due.is("8: plan(1) after insert", x.plan(1), 1);
        Due.is("8: plan(2) after insert", x.plan(2), 2);
        Due.is("8: cost() after insert", x.cost(), 30);
        for (int i = 10; i < 40; i++) {
            x.remove(i, 2, i);
        }
        Due.is("8: plan(0) after remove", x.plan(0), 2);
        x.pattern(50, 50, 50);
        Due.is("8: plan(0) after pattern", x.plan(0), 3);
        Due.is("8: plan(1) after pattern", x.plan(1), 0);
    }

    private static void planOfEqualCosts() {
        JoinPlanner x = new JoinPlanner();
        for (int i = 0; i < 6; i++) {
            x.pattern(-1 - i, 0, 0);
        }
        for (int i = 0; i < 6; i++) {
            Due.is("8: plan(" + i + ") of costs 0", x.plan(i), i);
        }
        for (int i = 0; i < 64; i++) {
            x.insert(i, 0, 0);
        }
        x.clear();
        for (int i = 0; i < 6; i++) {
            x.pattern(-1 - i, -1 - i, -1 - i);
        }
        for (int i = 0; i < 6; i++) {
            Due.is("8: plan(" + i + ") of equal costs", x.plan(i), i);
        }
    }

    private static void cost() {
        JoinPlanner x = new JoinPlanner();
        for (int i = 0; i < 10; i++) {
            x.insert(i, 0, 0);
            x.insert(i / 2, 1, i);
        }
        x.pattern(-1, 0, -2);
        Due.is("9: cost() of one", x.cost(), 10);
        x.pattern(-1, 1, -3);
        // 0, 1: 10 + 10 * (10 / 5); 1, 0: 10 + 10 * (10 / 10).
        Due.is("9: cost() of two", x.cost(), 20);
        x.pattern(-4, 1, -5);
        Due.is("9: cost() of three", x.cost(), 120);
        x.remove(0, 0, 0);
        // 0, 1, 2: 9 + 9 * 2 + 18 * 10; 1, 0, 2: 10 + 10 * 1 + 10 * 10.
        Due.is("9: cost() after remove", x.cost(), 120);
        x.remove(0, 1, 0);
        Due.is("9: cost() after another", x.cost(), 9 + 9 + 81);
        x.clear();
        Due.is("9: cost() after clear", x.cost(), 0);
    }

    /** Holds 100 triples and some patterns of which each has 100 for its estimate, whatever comes before it. */
    private static JoinPlanner hundreds(int patterns) {
        JoinPlanner x = new JoinPlanner();
        for (int i = 0; i < 100; i++) {
            x.insert(i % 50, i / 50, 0);
        }
        for (int i = 0; i < patterns; i++) {
            x.pattern(-1 - i, -1 - i, 0);
        }
        return x;
    }

    private static void costAtMost() {
        Due.is("9: cost() of 100^5", hundreds(5).cost(), 10101010100L);
        JoinPlanner x = hundreds(6);
        Due.is("9: cost() of 100^6 and more", x.cost(), MOST);
        Due.is("9: cost() beyond, plan(0)", x.plan(0), 0);
        Due.is("9: cost() beyond, plan(5)", x.plan(5), 5);
        x.insert(0, 5, 0);
        Due.is("9: cost() of 101^6 and more", x.cost(), MOST);
        Due.is("9: remove(0, 5, 0)", x.remove(0, 5, 0), 1);
        Due.is("9: remove(0, 0, 0)", x.remove(0, 0, 0), 1);
        long size = 1;
        long cost = 0;
        for (int i = 0; i < 6; i++) {
            size *= 99;
            cost += size;
        }
        Due.is("9: cost() of 99^6 and less", x.cost(), cost);
    }

    private static void use() {
        JoinPlanner x = new JoinPlanner();
        for (int i = 0; i < 6; i++) {
            x.pattern(i, -1, -2);
        }
        int[] order = {3, 0, 5, 1, 4, 2};
        for (int i = 0; i < 6; i++) {
            Due.is("10: use(" + order[i] + ")", x.use(order[i]), i + 1);
            Due.is("10: use(" + order[i] + ") again", x.use(order[i]), BAD);
            for (int far : FAR) {
                Due.is("10: use(" + far + ")", x.use(far), BAD);
            }
        }
        Due.is("10: use(3) of a whole order", x.use(3), BAD);
        Due.is("10: drop()", x.drop(), 6);
        Due.is("10: use(2) after drop()", x.use(2), 1);
        x.clear();
        x.pattern(-1, -1, -1);
        Due.is("10: use(1) of one pattern", x.use(1), BAD);
        Due.is("10: use(0) of one pattern", x.use(0), 1);
    }

    private static void drop() {
        JoinPlanner x = new JoinPlanner();
        x.insert(1, 1, 1);
        x.pattern(-1, -2, -3);
        x.pattern(-1, -2, -4);
        Due.is("11: drop() of none", x.drop(), 0);
        x.use(1);
        x.use(0);
        Due.is("11: drop()", x.drop(), 2);
        Due.is("11: drop() again", x.drop(), 0);
        Due.is("11: size(1)", x.size(1), BAD);
        Due.is("11: rows()", x.rows(), 0);
        Due.is("11: patterns stay", x.plan(1), 1);
        Due.is("11: use(1)", x.use(1), 1);
    }

    private static void size() {
        JoinPlanner x = new JoinPlanner();
        for (int i = 0; i < 12; i++) {
            x.insert(i % 4, 0, i);
            x.insert(i, 1, i % 2);
        }
        x.pattern(-1, 0, -2);
        x.pattern(-2, 1, -3);
        x.pattern(-3, 0, -4);
        x.use(2);
        x.use(0);
        x.use(1);
        Due.is("12: size(1)", x.size(1), 12);
        Due.is("12: size(2)", x.size(2), 144);
        // -2 and -3 are known: 12 / (12 * 2).
        Due.is("12: size(3)", x.size(3), 144);
        Due.is("12: size(0)", x.size(0), BAD);
        Due.is("12: size(4)", x.size(4), BAD);
        for (int far : FAR) {
            Due.is("12: size(" + far + ")", x.size(far), BAD);
        }
        x.drop();
        x.use(1);
        x.use(2);
        Due.is("12: size(2) of another order", x.size(2), 36);
        Due.is("12: size(3) of two", x.size(3), BAD);
        x.insert(20, 1, 9);
        Due.is("12: size(1) after insert", x.size(1), 13);
        Due.is("12: size(2) after insert", x.size(2), 39);
    }

    private static void sizeAtMost() {
        JoinPlanner x = hundreds(6);
        x.insert(0, 5, 0);
        for (int i = 0; i < 6; i++) {
            x.use(5 - i);
        }
        Due.is("12: size(5)", x.size(5), 10510100501L);
        Due.is("12: size(6) beyond", x.size(6), MOST);
        x.remove(0, 5, 0);
        Due.is("12: size(6) just at it", x.size(6), MOST);
        x.remove(0, 0, 0);
        Due.is("12: size(6) below", x.size(6), 941480149401L);
    }

    private static void rows() {
        JoinPlanner x = new JoinPlanner();
        for (int i = 0; i < 5; i++) {
            x.insert(i, 0, i + 1);
        }
        x.pattern(-1, 0, -2);
        x.pattern(-2, 0, -3);
        x.pattern(-1, -1, -1);
        x.pattern(0, 0, 1);
        x.pattern(0, 0, 2);
        x.use(0);
        Due.is("13: rows() of one", x.rows(), 5);
        x.use(1);
        Due.is("13: rows() of a chain", x.rows(), 9);
        x.use(3);
        Due.is("13: rows() with a triple that is there", x.rows(), 13);
        x.use(4);
        Due.is("13: rows() with a triple that is not", x.rows(), 13);
        x.use(2);
        Due.is("13: rows() of all", x.rows(), 13);
        x.drop();
        Due.is("13: rows() of an empty order", x.rows(), 0);
        x.use(3);
        Due.is("13: rows() of numbers alone", x.rows(), 1);
        x.use(2);
        Due.is("13: rows() of one variable at three places", x.rows(), 1);
        x.insert(7, 7, 7);
        Due.is("13: rows() after insert", x.rows(), 2);
        x.use(0);
        Due.is("13: rows() when the number does not stand there", x.rows(), 2);
    }

    /** Two patterns that share no variable, the first one with so many triples and the second one with so many. */
    private static JoinPlanner product(int first, int second) {
        JoinPlanner x = new JoinPlanner();
        for (int i = 0; i < first; i++) {
            x.insert(i % 64, 0, i / 64);
        }
        for (int i = 0; i < second; i++) {
            x.insert(i / 64, 1, i % 64);
        }
        x.pattern(-1, 0, -2);
        x.pattern(-7, 1, -8);
        return x;
    }

    private static int rowsOf(JoinPlanner x, int first, int second) {
        x.drop();
        x.use(first);
        x.use(second);
        return x.rows();
    }

    private static void rowsAtMost() {
        Due.is("13: 100 + 100 * 199 rows", rowsOf(product(100, 199), 0, 1), 20000);
        Due.is("13: 113 + 113 * 176 rows", rowsOf(product(113, 176), 0, 1), NO);
        Due.is("13: 199 + 100 * 199 rows", rowsOf(product(100, 199), 1, 0), NO);
        Due.is("13: 200 + 200 * 200 rows", rowsOf(product(200, 200), 0, 1), NO);
        JoinPlanner x = product(100, 199);
        Due.is("13: rows()", rowsOf(x, 0, 1), 20000);
        x.insert(63, 0, 63);
        Due.is("13: rows() after insert", x.rows(), NO);
        x.remove(63, 0, 63);
        Due.is("13: rows() after remove", x.rows(), 20000);
    }

    private static void solutions() {
        JoinPlanner x = new JoinPlanner();
        x.insert(1, 0, 2);
        x.insert(2, 0, 3);
        x.insert(3, 0, 1);
        x.insert(4, 4, 4);
        Due.is("14: solutions() of no patterns", x.solutions(), 1);
        x.pattern(-1, 0, -2);
        Due.is("14: solutions() of one", x.solutions(), 3);
        Due.is("14: solutions() again", x.solutions(), 3);
        x.pattern(-2, 0, -3);
        Due.is("14: solutions() of a chain", x.solutions(), 3);
        x.pattern(-3, 0, -1);
        Due.is("14: solutions() of a ring", x.solutions(), 3);
        x.pattern(-4, -4, -4);
        Due.is("14: solutions() with a lone one", x.solutions(), 3);
        x.pattern(-4, -4, -4);
        Due.is("14: solutions() with the same pattern twice", x.solutions(), 3);
        x.insert(5, 5, 5);
        Due.is("14: solutions() after insert", x.solutions(), 6);
        x.pattern(2, 0, 3);
        Due.is("14: solutions() with a triple that is there", x.solutions(), 6);
        x.remove(2, 0, 3);
        Due.is("14: solutions() after remove", x.solutions(), 0);
        x.insert(2, 0, 3);
        x.use(0);
        Due.is("14: solutions() whatever is made", x.solutions(), 6);
        Due.is("14: the order stays", x.drop(), 1);
        x.clear();
        Due.is("14: solutions() after clear", x.solutions(), 1);
        x.pattern(4, 4, 4);
        Due.is("14: solutions() of numbers alone", x.solutions(), 1);
        x.pattern(4, 4, 5);
        Due.is("14: solutions() of numbers alone, not there", x.solutions(), 0);
    }

    private static void solutionsOfOneVariableAtTwoPlaces() {
        JoinPlanner x = new JoinPlanner();
        for (int i = 0; i < 27; i++) {
            x.insert(i / 9, i / 3 % 3, i % 3);
        }
        x.insert(0, 1, 9);
        int[][] patterns = {{-1, -1, -2}, {-2, -1, -1}, {-1, -2, -1}, {-1, -1, -1}, {-3, -3, 9}, {-3, 1, -3}, {0, -3, -3}};
        int[] due = {9, 9, 9, 3, 0, 3, 3};
        for (int i = 0; i < patterns.length; i++) {
            x.pattern(patterns[i][0], patterns[i][1], patterns[i][2]);
            Due.is("14: solutions() of " + Arrays.toString(patterns[i]), x.solutions(), due[i]);
            x.use(0);
            Due.is("13: rows() of " + Arrays.toString(patterns[i]), x.rows(), due[i]);
            x.clear();
        }
    }

    private static void solutionsAtMost() {
        JoinPlanner x = product(100, 199);
        Due.is("14: solutions() of 20000 rows", x.solutions(), 19900);
        Due.is("14: value(19899, -8)", x.value(19899, -8), 198 % 64);
        Due.is("14: value(19900, -8)", x.value(19900, -8), BAD);
        Due.is("14: solutions() of 20001 rows", product(113, 176).solutions(), NO);
        Due.is("14: solutions() of 20099 rows, but not by the plan", product(199, 100).solutions(), 19900);
        Due.is("14: solutions() of far more rows", product(250, 250).solutions(), NO);
        x.insert(63, 0, 63);
        Due.is("14: solutions() after insert", x.solutions(), NO);
        Due.is("14: solutions() again", x.solutions(), NO);
        Due.is("14: value() after NO", x.value(0, -1), BAD);
        x.insert(20, 20, 20);
        x.pattern(-1, 20, -2);
        Due.is("14: solutions() after pattern", x.solutions(), 0);
    }

    /** The cost by THE RULE is small here, but the rows that come by THE PLAN are what counts. */
    private static void solutionsGoByThePlan() {
        JoinPlanner x = new JoinPlanner();
        // 252 triples with 63 different numbers in place 0: by the rule a known -1 goes on 4 times. But the only row
        // of pattern 2 has 1 for -1, and 190 triples begin with it.
        for (int i = 0; i < 63; i++) {
            x.insert(1, i, 40);
            x.insert(1, i, 41);
            x.insert(1, i, 42);
        }
        for (int i = 2; i < 64; i++) {
            x.insert(i, 63, 50);
        }
        x.insert(1, 63, 51);
        x.pattern(-1, -2, -3);
        x.pattern(-1, -4, -5);
        x.pattern(-1, 63, 51);
        Due.is("14: plan(0)", x.plan(0), 2);
        Due.is("14: cost() of 1 + 4 + 16", x.cost(), 21);
        // In truth 1 + 190 + 190 * 190 rows come.
        Due.is("14: solutions() by the plan", x.solutions(), NO);
    }

    private static void value() {
        JoinPlanner x = new JoinPlanner();
        x.insert(63, 0, 62);
        x.insert(61, 0, 0);
        x.pattern(-1, 0, -8);
        Due.is("15: value before solutions()", x.value(0, -1), BAD);
        Due.is("15: solutions()", x.solutions(), 2);
        Due.is("15: value(0, -1)", x.value(0, -1), 61);
        Due.is("15: value(0, -8)", x.value(0, -8), 0);
        Due.is("15: value(1, -1)", x.value(1, -1), 63);
        Due.is("15: value(1, -8)", x.value(1, -8), 62);
        Due.is("15: value(2, -1)", x.value(2, -1), BAD);
        Due.is("15: value(-1, -1)", x.value(-1, -1), BAD);
        Due.is("15: value(MIN, -1)", x.value(Integer.MIN_VALUE, -1), BAD);
        Due.is("15: value(MAX, -1)", x.value(Integer.MAX_VALUE, -1), BAD);
        for (int variable = -7; variable <= -2; variable++) {
            Due.is("15: a variable that stands nowhere, " + variable, x.value(0, variable), BAD);
        }
        for (int wrong : new int[] {0, 1, 8, 63, -9, -10, -33, -40, Integer.MIN_VALUE, Integer.MAX_VALUE}) {
            Due.is("15: value(0, " + wrong + ")", x.value(0, wrong), BAD);
        }
        x.clear();
        x.pattern(63, 0, 62);
        Due.is("15: solutions() of numbers alone", x.solutions(), 1);
        Due.is("15: value of numbers alone", x.value(0, -1), BAD);
    }

    private static JoinPlanner solved() {
        JoinPlanner x = new JoinPlanner();
        x.insert(1, 2, 3);
        x.pattern(-1, -2, 3);
        Due.is("15: solutions()", x.solutions(), 1);
        Due.is("15: value after solutions()", x.value(0, -2), 2);
        return x;
    }

    /** The document names the calls, not their answers: so a call that changes nothing counts too. */
    private static void valueAfterOtherCalls() {
        JoinPlanner x = solved();
        x.triples();
        x.estimate(0, 3);
        x.plan(0);
        x.cost();
        x.use(0);
        x.size(1);
        x.rows();
        x.drop();
        Due.is("15: value after calls that only ask, use() and drop()", x.value(0, -2), 2);
        x.insert(9, 9, 9);
        Due.is("15: value after insert()", x.value(0, -2), BAD);
        Due.is("15: solutions() after insert()", x.solutions(), 1);
        Due.is("15: value after solutions() again", x.value(0, -2), 2);
        x.remove(9, 9, 9);
        Due.is("15: value after remove()", x.value(0, -2), BAD);
        x = solved();
        x.pattern(-1, -2, -3);
        Due.is("15: value after pattern()", x.value(0, -2), BAD);
        x = solved();
        x.clear();
        x.pattern(-1, -2, 3);
        Due.is("15: value after clear() and pattern()", x.value(0, -2), BAD);
        x = solved();
        x.clear();
        Due.is("15: value after clear()", x.value(0, -2), BAD);
        x = solved();
        x.insert(1, 2, 3);
        Due.is("15: value after insert() that answers 0", x.value(0, -2), BAD);
        x = solved();
        x.remove(0, 0, 0);
        Due.is("15: value after remove() that answers 0", x.value(0, -2), BAD);
        x = solved();
        x.pattern(0, 0, -9);
        Due.is("15: value after pattern() that answers BAD", x.value(0, -2), BAD);
        Due.is("15: solutions() after pattern() that answers BAD", x.solutions(), 1);
        Due.is("15: value after that", x.value(0, -2), 2);
    }

    private static void valuesAreSorted() {
        JoinPlanner x = new JoinPlanner();
        for (int i = 0; i < 20; i++) {
            x.insert(i * 7 % 20, 0, i * 3 % 4);
            x.insert(i * 11 % 20, 1, i % 3);
        }
        x.pattern(-8, 0, -2);
        x.pattern(-3, 1, -1);
        Due.is("15: solutions() to be sorted", x.solutions(), 400);
        long before = -1;
        for (int i = 0; i < 400; i++) {
            long row = 0;
            for (int variable : new int[] {-1, -2, -3, -8}) {
                row = row * 64 + x.value(i, variable);
            }
            Due.holds("15: solution " + i + " comes after the one before it", row > before);
            before = row;
        }
    }
}
