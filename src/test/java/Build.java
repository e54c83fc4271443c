/** States that several boundaries need. */
final class Build {
    private Build() {
    }

    /** So many triples with b at place 1; at most 64 * 64. */
    static void triplesWith(Counted x, int b, int count) {
        for (int i = 0; i < count; i++) {
            x.insert(i % 64, b, i / 64);
        }
    }

    /**
     * As many patterns as there are parts. Part b (0, 1, ..) is a pattern of b at place 1, and -1 one of variables
     * alone. No two share a variable, so the estimate is how many triples have the pattern's numbers.
     */
    static void patternsOf(Counted x, int... parts) {
        for (int i = 0; i < parts.length; i++) {
            int variable = -1 - i;
            x.pattern(variable, parts[i] < 0 ? variable : parts[i], variable);
        }
    }

    static void useAll(Counted x, int... order) {
        for (int pattern : order) {
            x.use(pattern);
        }
    }

    /** Patterns 0, 1, .. that share no variable; so many triples are pattern 0, so many others pattern 1, and so on. */
    static void product(Counted x, int... counts) {
        for (int b = 0; b < counts.length; b++) {
            triplesWith(x, b, counts[b]);
        }
        for (int b = 0; b < counts.length; b++) {
            x.pattern(-1 - 2 * b, b, -2 - 2 * b);
        }
    }
}
