import java.util.Arrays;

/**
 * Patterns over triples: in which order they are best joined by a stated rule, how many rows come after each of
 * them, and all solutions.
 */
public final class JoinPlanner {
    public static final int BAD = -1;
    public static final int NO = -2;
    public static final int FULL = -3;

    private static final int NUMBERS = 64;
    private static final int BITS = 6;
    private static final int PLACES = 3;
    private static final int VARIABLES = 8;
    private static final int MOST_TRIPLES = 640;
    private static final int MOST_PATTERNS = 6;
    private static final int MOST_ROWS = 20000;
    private static final long MOST_SIZE = 1000000000000L;

    /** The greatest power of two within MOST_TRIPLES: the first stride of a search among triples. */
    private static final int FIRST_STRIDE = 512;
    private static final int FIRST_ROOM = 64;

    /** Below every answer of solutions(), so that no number of a solution lies under it. */
    private static final int NOT_ASKED = -4;

    /** For each set of places (bit 0 for place 0, and so on) the view of the triples in which these come first. */
    private static final int[] VIEW_OF = {0, 0, 1, 0, 2, 2, 1, 0};

    private final Triples store = new Triples();
    private final PatternList list = new PatternList();
    private final Order made = new Order();
    private final Planner planner = new Planner();
    private final Join join = new Join();
    private int found = NOT_ASKED;

    public JoinPlanner() {
    }

    public int insert(int a, int b, int c) {
        forget();
        if (!isNumber(a) || !isNumber(b) || !isNumber(c)) {
            return BAD;
        }
        if (store.has(a, b, c)) {
            return 0;
        }
        if (store.count >= MOST_TRIPLES) {
            return FULL;
        }
        store.put(a, b, c);
        return 1;
    }

    public int remove(int a, int b, int c) {
        forget();
        if (!isNumber(a) || !isNumber(b) || !isNumber(c)) {
            return BAD;
        }
        if (!store.has(a, b, c)) {
            return 0;
        }
        store.take(a, b, c);
        return 1;
    }

    public int triples() {
        return store.count;
    }

    public int pattern(int a, int b, int c) {
        forget();
        if (!isItem(a) || !isItem(b) || !isItem(c)) {
            return BAD;
        }
        if (list.count >= MOST_PATTERNS) {
            return FULL;
        }
        list.append(a, b, c);
        made.makeEmpty();
        return list.count - 1;
    }

    public int clear() {
        forget();
        int before = list.count;
        list.makeEmpty();
        made.makeEmpty();
        return before;
    }

    public int estimate(int pattern, int known) {
        if (!list.has(pattern)) {
            return BAD;
        }
        list.measure(store);
        return list.at(pattern).estimated(known);
    }

    public int plan(int k) {
        if (!list.has(k)) {
            return BAD;
        }
        return bestOrder().at(k);
    }

    public long cost() {
        bestOrder();
        return planner.leastCost;
    }

    public int use(int pattern) {
        if (!list.has(pattern) || made.has(pattern)) {
            return BAD;
        }
        made.append(pattern);
        return made.length;
    }

    public int drop() {
        int before = made.length;
        made.makeEmpty();
        return before;
    }

    public long size(int k) {
        if (k < 1 || k > made.length) {
            return BAD;
        }
        list.measure(store);
        long size = 1;
        int known = 0;
        for (int i = 0; i < k; i++) {
            Pattern next = list.at(made.at(i));
            size = grown(size, next.estimated(known));
            known |= next.variables();
        }
        return size;
    }

    public int rows() {
        return join.countRows(made, list, store);
    }

    public int solutions() {
        // Nothing that could change the answer has come since the last time, or found would be NOT_ASKED.
        if (found == NOT_ASKED) {
            found = join.collect(bestOrder(), list, store);
        }
        return found;
    }

    public int value(int i, int variable) {
        if (i < 0 || i >= found || !isVariable(variable)) {
            return BAD;
        }
        if ((list.variables() & bitOf(variable)) == 0) {
            return BAD;
        }
        return numberIn(join.solved.at(i), variable);
    }

    private void forget() {
        found = NOT_ASKED;
        list.measured = false;
        planner.ready = false;
    }

    private Order bestOrder() {
        list.measure(store);
        planner.prepare(list);
        return planner.best;
    }

    private static boolean isNumber(int item) {
        return item >= 0 && item < NUMBERS;
    }

    private static boolean isVariable(int item) {
        return item < 0 && item >= -VARIABLES;
    }

    private static boolean isItem(int item) {
        return isNumber(item) || isVariable(item);
    }

    private static int bitOf(int variable) {
        return 1 << (-1 - variable);
    }

    private static long grown(long size, int estimate) {
        return Math.min(size * estimate, MOST_SIZE);
    }

    /** Where a variable stands in a row: -1 is the highest, so that rows sort as solutions must. */
    private static int rowShift(int variable) {
        return BITS * (VARIABLES + variable);
    }

    private static int numberIn(long row, int variable) {
        return (int) (row >> rowShift(variable)) & (NUMBERS - 1);
    }

    /** Where a place stands in the codes of a view: the view's own place is the highest, the next ones follow. */
    private static int codeShift(int view, int place) {
        return BITS * (PLACES - 1 - Math.floorMod(place - view, PLACES));
    }

    private static int codeOf(int view, int a, int b, int c) {
        return a << codeShift(view, 0) | b << codeShift(view, 1) | c << codeShift(view, 2);
    }

    private static int numberAt(int code, int shift) {
        return code >> shift & (NUMBERS - 1);
    }

    /** How many low bits of a code are left when some places are fixed and stand at its head. */
    private static int openBits(int fixedPlaces) {
        return BITS * (PLACES - Integer.bitCount(fixedPlaces));
    }

    /** The index of the first of the sorted codes that is not below the one that is asked for. */
    private static int firstFrom(int[] codes, int count, int code) {
        int below = 0;
        for (int stride = FIRST_STRIDE; stride > 0; stride /= 2) {
            if (below + stride <= count && codes[below + stride - 1] < code) {
                below += stride;
            }
        }
        return below;
    }

    /**
     * The triples, sorted three times: from place 0, from place 1 and from place 2 on (and round again). Any set of
     * places stands at the head of one of these views, so the triples that agree there stand side by side in it.
     */
    private static final class Triples {
        private final int[][] views = new int[PLACES][MOST_TRIPLES];
        private int count;

        boolean has(int a, int b, int c) {
            int code = codeOf(0, a, b, c);
            int index = firstIn(0, code);
            return index < count && views[0][index] == code;
        }

        void put(int a, int b, int c) {
            if (count >= MOST_TRIPLES) {
                return;
            }
            for (int view = 0; view < PLACES; view++) {
                int[] codes = views[view];
                int code = codeOf(view, a, b, c);
                int index = firstIn(view, code);
                System.arraycopy(codes, index, codes, index + 1, count - index);
                codes[index] = code;
            }
            count++;
        }

        void take(int a, int b, int c) {
            if (!has(a, b, c)) {
                return;
            }
            for (int view = 0; view < PLACES; view++) {
                int[] codes = views[view];
                int index = firstIn(view, codeOf(view, a, b, c));
                System.arraycopy(codes, index + 1, codes, index, count - index - 1);
            }
            count--;
        }

        int firstIn(int view, int code) {
            return firstFrom(views[view], count, code);
        }

        int countDifferent(int view, int place, int from, int end) {
            int shift = codeShift(view, place);
            long seen = 0;
            for (int i = from; i < end; i++) {
                seen |= 1L << numberAt(views[view][i], shift);
            }
            return Long.bitCount(seen);
        }
    }

    /** A pattern, and what THE RULE needs to know of the triples that have its numbers. */
    private static final class Pattern {
        private final int[] items = new int[PLACES];
        private final int[] different = new int[PLACES];
        private int matching;

        void become(int a, int b, int c) {
            items[0] = a;
            items[1] = b;
            items[2] = c;
        }

        int variables() {
            int variables = 0;
            for (int place = 0; place < PLACES; place++) {
                if (items[place] < 0) {
                    variables |= bitOf(items[place]);
                }
            }
            return variables;
        }

        boolean isKnown(int place, int known) {
            return items[place] < 0 && (known & bitOf(items[place])) != 0;
        }

        int fixedPlaces(int known) {
            int fixed = 0;
            for (int place = 0; place < PLACES; place++) {
                if (items[place] >= 0 || isKnown(place, known)) {
                    fixed |= 1 << place;
                }
            }
            return fixed;
        }

        int numberKey(int view) {
            int key = 0;
            for (int place = 0; place < PLACES; place++) {
                if (items[place] >= 0) {
                    key |= items[place] << codeShift(view, place);
                }
            }
            return key;
        }

        void measure(Triples triples) {
            int fixed = fixedPlaces(0);
            int view = VIEW_OF[fixed];
            int key = numberKey(view);
            int from = triples.firstIn(view, key);
            int end = triples.firstIn(view, key + (1 << openBits(fixed)));
            matching = end - from;
            for (int place = 0; place < PLACES; place++) {
                different[place] = triples.countDifferent(view, place, from, end);
            }
        }

        int estimated(int known) {
            int divisor = 1;
            for (int place = 0; place < PLACES; place++) {
                if (isKnown(place, known)) {
                    divisor *= different[place];
                }
            }
            // No triple has the pattern's numbers: then nothing different stands anywhere either.
            if (matching < 1 || divisor < 1) {
                return 0;
            }
            return (matching + divisor - 1) / divisor;
        }

        /** Whether a triple is this pattern for some numbers of its variables. */
        boolean fits(int a, int b, int c) {
            return (items[0] < 0 || items[0] == a)
                && (items[1] < 0 || items[1] == b)
                && (items[2] < 0 || items[2] == c)
                && (items[0] != items[1] || a == b)
                && (items[1] != items[2] || b == c)
                && (items[0] != items[2] || a == c);
        }
    }

    /** The patterns, made once and used again after each clear(). */
    private static final class PatternList {
        private final Pattern[] all = new Pattern[MOST_PATTERNS];
        private int count;
        private boolean measured;

        PatternList() {
            for (int i = 0; i < MOST_PATTERNS; i++) {
                all[i] = new Pattern();
            }
        }

        boolean has(int number) {
            return number >= 0 && number < count;
        }

        /** Only for a number that the list has. */
        Pattern at(int number) {
            return all[number];
        }

        void append(int a, int b, int c) {
            if (count < MOST_PATTERNS) {
                all[count].become(a, b, c);
                count++;
            }
        }

        void makeEmpty() {
            count = 0;
        }

        int variables() {
            int variables = 0;
            for (int i = 0; i < count; i++) {
                variables |= all[i].variables();
            }
            return variables;
        }

        void measure(Triples triples) {
            if (measured) {
                return;
            }
            for (int i = 0; i < count; i++) {
                all[i].measure(triples);
            }
            measured = true;
        }
    }

    /** Numbers of patterns in a row, none twice. */
    private static final class Order {
        private final int[] numbers = new int[MOST_PATTERNS];
        private int length;
        private int used;

        boolean has(int number) {
            return (used & 1 << number) != 0;
        }

        /** Only for an index below the length. */
        int at(int index) {
            return numbers[index];
        }

        void append(int number) {
            if (length < MOST_PATTERNS) {
                numbers[length] = number;
                used |= 1 << number;
                length++;
            }
        }

        void shorten() {
            if (length > 0) {
                length--;
                used &= ~(1 << numbers[length]);
            }
        }

        void makeEmpty() {
            length = 0;
            used = 0;
        }

        void copy(Order other) {
            System.arraycopy(other.numbers, 0, numbers, 0, MOST_PATTERNS);
            length = other.length;
            used = other.used;
        }
    }

    /** Looks for THE PLAN among all orders, kept until a triple or a pattern changes. */
    private static final class Planner {
        private final Order trial = new Order();
        private final Order best = new Order();
        private long leastCost;
        private boolean ready;

        void prepare(PatternList list) {
            if (ready) {
                return;
            }
            trial.makeEmpty();
            // Above every cost, so that the first order of all is taken in any case.
            leastCost = MOST_SIZE + 1;
            search(this, list, 0, 0, 1, 0);
            ready = true;
        }

        /**
         * Orders come with the least numbers first, so one that costs as much as an earlier one never replaces it;
         * and costs only grow, so a beginning that costs as much already is left.
         */
        private static void search(Planner planner, PatternList list, int depth, int known, long size, long cost) {
            if (depth >= list.count) {
                planner.leastCost = cost;
                planner.best.copy(planner.trial);
                return;
            }
            for (int number = 0; number < list.count; number++) {
                if (planner.trial.has(number)) {
                    continue;
                }
                Pattern next = list.at(number);
                long nextSize = grown(size, next.estimated(known));
                long nextCost = Math.min(cost + nextSize, MOST_SIZE);
                if (nextCost < planner.leastCost) {
                    planner.trial.append(number);
                    search(planner, list, depth + 1, known | next.variables(), nextSize, nextCost);
                    planner.trial.shorten();
                }
            }
        }
    }

    /** One pattern of an order that is joined, with the triples that fit it, sorted by what is known before it. */
    private static final class Step {
        private final int[] fitting = new int[MOST_TRIPLES];
        private final int[] items = new int[PLACES];
        private final int[] shifts = new int[PLACES];
        private int count;
        private int numberKey;
        private int fixedPlaces;
        private int openBits;

        void prepare(Pattern pattern, int known, Triples triples) {
            fixedPlaces = pattern.fixedPlaces(known);
            openBits = openBits(fixedPlaces);
            int view = VIEW_OF[fixedPlaces];
            numberKey = pattern.numberKey(view);
            for (int place = 0; place < PLACES; place++) {
                items[place] = pattern.items[place];
                shifts[place] = codeShift(view, place);
            }
            count = 0;
            for (int i = 0; i < triples.count; i++) {
                int code = triples.views[view][i];
                if (pattern.fits(numberAt(code, shifts[0]), numberAt(code, shifts[1]), numberAt(code, shifts[2]))) {
                    fitting[count] = code;
                    count++;
                }
            }
        }

        /** The head that the codes of all triples have by which the row goes on. */
        int keyFor(long row) {
            int key = numberKey;
            for (int place = 0; place < PLACES; place++) {
                if (items[place] < 0 && (fixedPlaces & 1 << place) != 0) {
                    key |= numberIn(row, items[place]) << shifts[place];
                }
            }
            return key;
        }

        int firstFor(int key) {
            return firstFrom(fitting, count, key);
        }

        /** Only for an index below the count. */
        boolean agrees(int index, int key) {
            return fitting[index] >> openBits == key >> openBits;
        }

        /** Only for an index that agrees with the row's key: the numbers of known variables are the same then. */
        long extended(long row, int index) {
            long next = row;
            for (int place = 0; place < PLACES; place++) {
                if (items[place] < 0) {
                    next |= (long) numberAt(fitting[index], shifts[place]) << rowShift(items[place]);
                }
            }
            return next;
        }
    }

    /** Goes through the rows of an order, depth first: so no rows but whole solutions need room. */
    private static final class Join {
        private final Step[] steps = new Step[MOST_PATTERNS];
        private final Solutions solved = new Solutions();
        private int length;
        private int total;
        private boolean collecting;

        Join() {
            for (int i = 0; i < MOST_PATTERNS; i++) {
                steps[i] = new Step();
            }
        }

        int countRows(Order order, PatternList list, Triples triples) {
            collecting = false;
            walk(order, list, triples);
            return total > MOST_ROWS ? NO : total;
        }

        int collect(Order order, PatternList list, Triples triples) {
            collecting = true;
            solved.makeEmpty();
            walk(order, list, triples);
            if (total > MOST_ROWS) {
                return NO;
            }
            solved.sort();
            return solved.count;
        }

        private void walk(Order order, PatternList list, Triples triples) {
            int known = 0;
            for (int i = 0; i < order.length; i++) {
                Pattern pattern = list.at(order.at(i));
                steps[i].prepare(pattern, known, triples);
                known |= pattern.variables();
            }
            length = order.length;
            total = 0;
            extend(this, 0, 0);
        }

        private static void extend(Join join, int depth, long row) {
            if (depth >= join.length) {
                if (join.collecting) {
                    join.solved.keep(row);
                }
                return;
            }
            Step step = join.steps[depth];
            int key = step.keyFor(row);
            for (int i = step.firstFor(key); i < step.count && step.agrees(i, key); i++) {
                join.total++;
                if (join.total > MOST_ROWS) {
                    return;
                }
                extend(join, depth + 1, step.extended(row, i));
            }
        }
    }

    /** The rows that are solutions; their room grows with them and is used again. */
    private static final class Solutions {
        private long[] rows = new long[FIRST_ROOM];
        private long[] spare = new long[FIRST_ROOM];
        private int count;

        void makeEmpty() {
            count = 0;
        }

        /** Only for an index below the count. */
        long at(int index) {
            return rows[index];
        }

        void keep(long row) {
            if (count >= MOST_ROWS) {
                return;
            }
            if (count >= rows.length) {
                rows = Arrays.copyOf(rows, Math.min(2 * rows.length, MOST_ROWS));
            }
            rows[count] = row;
            count++;
        }

        void sort() {
            // Both stay equally long: a shorter one that became rows would have to grow anew, again and again.
            if (spare.length < rows.length) {
                spare = new long[rows.length];
            }
            for (int width = 1; width < count; width *= 2) {
                for (int from = 0; from < count; from += 2 * width) {
                    merge(from, Math.min(from + width, count), Math.min(from + 2 * width, count));
                }
                long[] merged = spare;
                spare = rows;
                rows = merged;
            }
        }

        private void merge(int from, int middle, int end) {
            int left = from;
            int right = middle;
            for (int i = from; i < end; i++) {
                if (left < middle && (right >= end || rows[left] <= rows[right])) {
                    spare[i] = rows[left];
                    left++;
                } else {
                    spare[i] = rows[right];
                    right++;
                }
            }
        }
    }
}
