import java.math.BigInteger;
import java.util.ArrayList;
import java.util.Arrays;
import java.util.Collection;
import java.util.Comparator;
import java.util.HashSet;
import java.util.List;
import java.util.Set;
import java.util.TreeSet;

/** What the document says, written down as slowly and as plainly as it can be: nothing is kept but the state. */
final class Model {
    private static final int BAD = -1;
    private static final int NO = -2;
    private static final int FULL = -3;
    private static final BigInteger MOST = BigInteger.TEN.pow(12);
    private static final int MOST_ROWS = 20000;

    private final Set<List<Integer>> triples = new HashSet<>();
    private final List<List<Integer>> patterns = new ArrayList<>();
    private final List<Integer> made = new ArrayList<>();
    private List<List<Integer>> latest = List.of();

    int insert(int a, int b, int c) {
        latest = List.of();
        List<Integer> triple = List.of(a, b, c);
        if (!triple.stream().allMatch(Model::isNumber)) {
            return BAD;
        }
        if (triples.contains(triple)) {
            return 0;
        }
        if (triples.size() == 640) {
            return FULL;
        }
        triples.add(triple);
        return 1;
    }

    int remove(int a, int b, int c) {
        latest = List.of();
        List<Integer> triple = List.of(a, b, c);
        if (!triple.stream().allMatch(Model::isNumber)) {
            return BAD;
        }
        return triples.remove(triple) ? 1 : 0;
    }

    int triples() {
        return triples.size();
    }

    int pattern(int a, int b, int c) {
        latest = List.of();
        List<Integer> pattern = List.of(a, b, c);
        if (!pattern.stream().allMatch(item -> isNumber(item) || isVariable(item))) {
            return BAD;
        }
        if (patterns.size() == 6) {
            return FULL;
        }
        patterns.add(pattern);
        made.clear();
        return patterns.size() - 1;
    }

    int clear() {
        latest = List.of();
        int before = patterns.size();
        patterns.clear();
        made.clear();
        return before;
    }

    int estimate(int pattern, int known) {
        if (pattern < 0 || pattern >= patterns.size()) {
            return BAD;
        }
        Set<Integer> variables = new HashSet<>();
        for (int i = 0; i < 8; i++) {
            if ((known >> i & 1) == 1) {
                variables.add(-1 - i);
            }
        }
        return byTheRule(patterns.get(pattern), variables);
    }

    int plan(int k) {
        return k < 0 || k >= patterns.size() ? BAD : thePlan().get(k);
    }

    long cost() {
        return costOf(thePlan()).longValueExact();
    }

    int use(int pattern) {
        if (pattern < 0 || pattern >= patterns.size() || made.contains(pattern)) {
            return BAD;
        }
        made.add(pattern);
        return made.size();
    }

    int drop() {
        int before = made.size();
        made.clear();
        return before;
    }

    long size(int k) {
        return k < 1 || k > made.size() ? BAD : sizesOf(made).get(k - 1).longValueExact();
    }

    int rows() {
        return rowsOf(made).total;
    }

    int solutions() {
        Rows rows = rowsOf(thePlan());
        latest = List.of();
        if (rows.total == NO) {
            return NO;
        }
        latest = new ArrayList<>(rows.last);
        return latest.size();
    }

    int value(int i, int variable) {
        if (i < 0 || i >= latest.size() || !isVariable(variable)) {
            return BAD;
        }
        boolean stands = patterns.stream().anyMatch(pattern -> pattern.contains(variable));
        return stands ? latest.get(i).get(-1 - variable) : BAD;
    }

    private static boolean isNumber(int item) {
        return item >= 0 && item <= 63;
    }

    private static boolean isVariable(int item) {
        return item <= -1 && item >= -8;
    }

    private int byTheRule(List<Integer> pattern, Collection<Integer> known) {
        List<List<Integer>> having = new ArrayList<>();
        for (List<Integer> triple : triples) {
            boolean has = true;
            for (int place = 0; place < 3; place++) {
                has &= pattern.get(place) < 0 || pattern.get(place).equals(triple.get(place));
            }
            if (has) {
                having.add(triple);
            }
        }
        if (having.isEmpty()) {
            return 0;
        }
        BigInteger divisor = BigInteger.ONE;
        for (int place = 0; place < 3; place++) {
            if (known.contains(pattern.get(place))) {
                Set<Integer> different = new HashSet<>();
                for (List<Integer> triple : having) {
                    different.add(triple.get(place));
                }
                divisor = divisor.multiply(BigInteger.valueOf(different.size()));
            }
        }
        BigInteger[] parts = BigInteger.valueOf(having.size()).divideAndRemainder(divisor);
        return parts[0].intValueExact() + parts[1].signum();
    }

    private List<BigInteger> sizesOf(List<Integer> order) {
        List<BigInteger> sizes = new ArrayList<>();
        Set<Integer> known = new HashSet<>();
        BigInteger size = BigInteger.ONE;
        for (int number : order) {
            List<Integer> pattern = patterns.get(number);
            size = size.multiply(BigInteger.valueOf(byTheRule(pattern, known))).min(MOST);
            sizes.add(size);
            pattern.stream().filter(Model::isVariable).forEach(known::add);
        }
        return sizes;
    }

    private BigInteger costOf(List<Integer> order) {
        return sizesOf(order).stream().reduce(BigInteger.ZERO, BigInteger::add).min(MOST);
    }

    private List<Integer> thePlan() {
        List<List<Integer>> orders = new ArrayList<>();
        collectOrders(List.of(), orders);
        Comparator<List<Integer>> byNumbers = (left, right) -> Arrays.compare(array(left), array(right));
        List<Integer> best = null;
        BigInteger least = null;
        for (List<Integer> order : orders) {
            BigInteger cost = costOf(order);
            int compared = best == null ? -1 : cost.compareTo(least);
            if (compared < 0 || compared == 0 && byNumbers.compare(order, best) < 0) {
                best = order;
                least = cost;
            }
        }
        return best;
    }

    /** The greatest numbers first, so that the model finds the least order by comparing, not by its way. */
    private void collectOrders(List<Integer> beginning, List<List<Integer>> orders) {
        if (beginning.size() == patterns.size()) {
            orders.add(beginning);
        }
        for (int number = patterns.size() - 1; number >= 0; number--) {
            if (!beginning.contains(number)) {
                List<Integer> longer = new ArrayList<>(beginning);
                longer.add(number);
                collectOrders(longer, orders);
            }
        }
    }

    private static int[] array(List<Integer> numbers) {
        return numbers.stream().mapToInt(Integer::intValue).toArray();
    }

    /** How many rows came all together (or NO), and those after the last pattern, sorted. */
    private static final class Rows {
        private int total;
        private TreeSet<List<Integer>> last = newRows();
    }

    private static TreeSet<List<Integer>> newRows() {
        return new TreeSet<>((left, right) -> Arrays.compare(array(left), array(right)));
    }

    private Rows rowsOf(List<Integer> order) {
        Rows rows = new Rows();
        rows.last.add(List.of(-1, -1, -1, -1, -1, -1, -1, -1));
        for (int number : order) {
            TreeSet<List<Integer>> next = newRows();
            for (List<Integer> row : rows.last) {
                for (List<Integer> triple : triples) {
                    List<Integer> longer = joined(row, patterns.get(number), triple);
                    if (longer != null) {
                        next.add(longer);
                    }
                }
                if (rows.total + next.size() > MOST_ROWS) {
                    rows.total = NO;
                    return rows;
                }
            }
            rows.last = next;
            rows.total += next.size();
        }
        return rows;
    }

    /** The row with the numbers that make the pattern this triple, or null when there are none. */
    private static List<Integer> joined(List<Integer> row, List<Integer> pattern, List<Integer> triple) {
        Integer[] longer = row.toArray(new Integer[0]);
        for (int place = 0; place < 3; place++) {
            int item = pattern.get(place);
            int number = triple.get(place);
            int due = item >= 0 ? item : longer[-1 - item];
            if (due >= 0 && due != number) {
                return null;
            }
            if (item < 0) {
                longer[-1 - item] = number;
            }
        }
        return Arrays.asList(longer);
    }
}
