/** An object of the class with its calls counted: nothing is promised of an object beyond its 512th call. */
final class Counted {
    static final int MOST_CALLS = 512;

    private final EquationProofs object = new EquationProofs();
    private int calls = 0;

    private EquationProofs next() {
        calls++;
        if (calls > MOST_CALLS) {
            throw new AssertionError("a test calls one object more than " + MOST_CALLS + " times");
        }
        return object;
    }

    int calls() {
        return calls;
    }

    int feed(int a, int b, int c, int d, int e) {
        return next().feed(a, b, c, d, e);
    }

    void end(int n) {
        next().end(n);
    }

    int read() {
        return next().read();
    }

    int fault() {
        return next().fault();
    }

    int count(int what) {
        return next().count(what);
    }

    int about(int law, int what) {
        return next().about(law, what);
    }

    int work(int steps) {
        return next().work(steps);
    }

    int steps() {
        return next().steps();
    }

    int test(int law, int size, boolean all) {
        return next().test(law, size, all);
    }

    int told(int variable) {
        return next().told(variable);
    }

    int begin(int law, boolean full) {
        return next().begin(law, full);
    }

    int unfold(int side, int place) {
        return next().unfold(side, place);
    }

    int law(int law, boolean back, int side, int place) {
        return next().law(law, back, side, place);
    }

    int hypothesis(int k, boolean back, int side, int place) {
        return next().hypothesis(k, back, side, place);
    }

    int induction(int v) {
        return next().induction(v);
    }

    int cases(int side, int place) {
        return next().cases(side, place);
    }

    int same() {
        return next().same();
    }

    int parts() {
        return next().parts();
    }

    int search(int rows) {
        return next().search(rows);
    }

    int show(int k, int side) {
        return next().show(k, side);
    }

    int showHypothesis(int k, int side) {
        return next().showHypothesis(k, side);
    }

    int showLaw(int law, int side) {
        return next().showLaw(law, side);
    }

    int printed(int i) {
        return next().printed(i);
    }
}
