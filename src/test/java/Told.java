/** What an object answers, written down, so that two objects can be held against each other. */
final class Told {
    private static final int[] KNOWN = {0, 1, 2, 4, 8, 128, 255};

    private Told() {
    }

    /** What depends on the triples and the patterns alone. */
    static String ofPatterns(Counted x) {
        StringBuilder told = new StringBuilder();
        told.append(x.triples()).append(' ').append(x.cost());
        for (int i = 0; i <= 6; i++) {
            told.append(" | ").append(x.plan(i));
            for (int known : KNOWN) {
                told.append(' ').append(x.estimate(i, known));
            }
        }
        int count = x.solutions();
        told.append(" | ").append(count);
        for (int i = 0; i <= Math.min(count, 8); i++) {
            for (int variable = -1; variable >= -8; variable--) {
                told.append(' ').append(x.value(i, variable));
            }
        }
        return told.toString();
    }

    /** What depends on the order that is made. */
    static String ofOrder(Counted x) {
        StringBuilder told = new StringBuilder();
        told.append(x.rows());
        for (int k = 0; k <= 7; k++) {
            told.append(' ').append(x.size(k));
        }
        return told.toString();
    }

    /** All of it; the order and the patterns are gone afterwards. */
    static String all(Counted x) {
        StringBuilder told = new StringBuilder();
        told.append(ofOrder(x)).append(" || ").append(ofPatterns(x)).append(" || ").append(ofOrder(x));
        told.append(" || ").append(x.insert(9, 9, 9)).append(' ').append(x.remove(9, 9, 9));
        return told.append(' ').append(x.drop()).append(' ').append(x.clear()).toString();
    }
}
