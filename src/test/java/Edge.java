/**
 * A sentence of the document that names a boundary, and a run of calls that leads there. Each answer is asked for
 * three times: as early as it can be, as the 512th call of an object that held other things before, and as the 512th
 * call of one that was asked a lot since.
 */
final class Edge {
    private final String sentence;
    private final Run before;

    interface Run {
        void on(Counted x);
    }

    /** One call, and its answer. */
    interface Call {
        long on(Counted x);
    }

    /** One call with an argument that is tried for several numbers. */
    interface CallWith {
        long on(Counted x, int argument);
    }

    /** One call of three arguments that are all of one kind. */
    interface CallOfThree {
        long on(Counted x, int a, int b, int c);
    }

    Edge(String sentence, Run before) {
        this.sentence = sentence;
        this.before = before;
    }

    /** On a new object. */
    Edge(String sentence) {
        this(sentence, x -> { });
    }

    Edge due(String call, Call asked, long answer) {
        String name = sentence + ": " + call;
        Counted early = new Counted();
        before.on(early);
        int left = Counted.MOST_CALLS - 1 - early.calls();
        Due.is(name, asked.on(early), answer);
        Due.holds(name + " is one call within 512", left >= 0 && early.calls() == Counted.MOST_CALLS - left);
        Counted late = new Counted();
        late.comeAndGo(left);
        before.on(late);
        Due.is(name + " (call 512, after other things)", asked.on(late), answer);
        Counted waiting = new Counted();
        before.on(waiting);
        waiting.ask(left);
        Due.is(name + " (call 512, after questions)", asked.on(waiting), answer);
        return this;
    }

    /** The call's name has a # where the argument stands. */
    Edge dueForEach(String call, CallWith asked, long answer, int... arguments) {
        for (int argument : arguments) {
            due(call.replace("#", "" + argument), x -> asked.on(x, argument), answer);
        }
        return this;
    }

    /** Each of the arguments at each of the three places, with a fine one at the two others. */
    Edge dueAtEachPlace(String call, CallOfThree asked, int fine, long answer, int... arguments) {
        for (int argument : arguments) {
            due(call + "(" + argument + ", " + fine + ", " + fine + ")", x -> asked.on(x, argument, fine, fine), answer);
            due(call + "(" + fine + ", " + argument + ", " + fine + ")", x -> asked.on(x, fine, argument, fine), answer);
            due(call + "(" + fine + ", " + fine + ", " + argument + ")", x -> asked.on(x, fine, fine, argument), answer);
        }
        return this;
    }
}
