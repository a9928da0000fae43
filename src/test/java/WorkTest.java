/** Promises 8, 9 and 24: work, steps, printed. */
public final class WorkTest {
    private static final String MANY = "data B=T|F;data N=Z|S N;data P=P N N;data Q=U|C Q Q Q;"
            + "fun add:N>N>N;rule add Z y=y;rule add (S x) y=S (add x y);"
            + "fun if:B>N>N>N;rule if T x y=x;rule if F x y=y;"
            + "fun lo:N;rule lo=S lo;fun un:N>N;"
            + "fun h:N>N>N;rule h Z Z=Z;rule h x (S y)=S Z;"
            + "fun f:N>N;rule f (S (S x))=Z;rule f x=S x;"
            + "fun fst:P>N;rule fst (P x y)=x;fun d:P>N;rule d (P (S x) Z)=x;rule d p=lo;"
            + "fun big:Q>Q;rule big x=big (C x x x);";

    public static void main(String[] args) {
        values(Check.with(MANY));
        matching(Check.with(MANY));
        order(Check.with(MANY));
        tooGreat();
        refused(Check.with(MANY));
        faults(Check.with(MANY));
        printing(Check.with(MANY));
        Check.finish();
    }

    private static void values(Counted x) {
        worked(x, "Z", 0, 0, 0, "Z");
        worked(x, "_", 0, 0, 0, "_");
        worked(x, " ( P ((S Z))\n_ ) ", 0, 0, 0, "P (S Z) _");
        worked(x, "C U _ (C U U U)", 2000, 0, 0, "C U _ (C U U U)");
    }

    private static void matching(Counted x) {
        worked(x, "add (S Z) (S (S Z))", 100, 0, 2, "S (S (S Z))");
        worked(x, "add _ Z", 100, 0, 1, "_");
        worked(x, "add (S _) Z", 100, 0, 2, "S _");
        worked(x, "un Z", 5, 0, 1, "_");
        worked(x, "h _ (S Z)", 5, 0, 1, "_");
        worked(x, "h (S Z) _", 5, 0, 1, "_");
        worked(x, "h (S _) (S _)", 5, 0, 1, "S Z");
        worked(x, "h Z (S Z)", 5, 0, 1, "S Z");
        worked(x, "h (S Z) Z", 5, 0, 1, "_");
        worked(x, "f Z", 5, 0, 1, "S Z");
        worked(x, "f (S Z)", 5, 0, 1, "S (S Z)");
        worked(x, "f (S (S _))", 5, 0, 1, "Z");
        worked(x, "f (S _)", 5, 0, 1, "_");
        worked(x, "f _", 5, 0, 1, "_");
        worked(x, "d (P (S Z) _)", 5, 0, 1, "_");
        worked(x, "d (P (S Z) Z)", 5, 0, 1, "Z");
        worked(x, "d (P Z _)", 1, 1, 1, "lo");
    }

    private static void order(Counted x) {
        worked(x, "if T Z lo", 10, 0, 1, "Z");
        worked(x, "if _ Z lo", 10, 0, 1, "_");
        worked(x, "fst (P Z lo)", 10, 0, 1, "Z");
        worked(x, "add Z Z", 0, 1, 0, "add Z Z");
        worked(x, "add (add (S Z) Z) Z", 1, 1, 1, "add (S (add Z Z)) Z");
        worked(x, "add (add (S Z) Z) Z", 2, 1, 2, "S (add (add Z Z) Z)");
        worked(x, "add (add (S Z) Z) Z", 3, 1, 3, "S (add Z Z)");
        worked(x, "add (add (S Z) Z) Z", 4, 0, 4, "S Z");
        worked(x, "P (S (add Z Z)) (add Z Z)", 1, 1, 1, "P (S Z) (add Z Z)");
        worked(x, "P Z (add Z Z)", 1, 0, 1, "P Z Z");
        // f wants what lo is, twice; then it is worked out no more.
        worked(x, "f lo", 9, 0, 3, "Z");
        worked(x, "if (if2) Z Z", 9, -1004, 3, "Z");
    }

    private static void tooGreat() {
        int bytes = 2 * 119 + 2 + 2 * 118;
        lastByte(Check.with(MANY), 119, 1, bytes);
        lastByte(Check.with(MANY), 120, 2, bytes);
        lastByte(Check.with(MANY), 2000, 2, bytes);
        Counted x = Check.with(MANY);
        worked(x, "big U", 2000, 2, 3, null);
        Check.due("40 names behind big", Check.printed(x).substring(0, 8), "big (C (");
        worked(x, "big U", 3, 1, 3, null);
    }

    /** What lo becomes has 120 names, and never more. */
    private static void lastByte(Counted x, int steps, int answer, int bytes) {
        worked(x, "lo", steps, answer, 119, null);
        Check.due("the last byte of 120 names", x.printed(bytes - 1), ')');
        Check.due("behind 120 names", x.printed(bytes), EquationProofs.NONE);
    }

    private static void refused(Counted x) {
        worked(x, "add Z Z", 1, 0, 1, "Z");
        int kind = x.fault();
        worked(x, "add", -1, EquationProofs.OUTSIDE, 1, "Z");
        worked(x, "S Z", 2001, EquationProofs.OUTSIDE, 1, "Z");
        Check.due("no fault is looked for", x.fault(), kind);
    }

    private static void faults(Counted x) {
        fault(x, "", 0, 2);
        fault(x, " \n", 2, 2);
        fault(x, "add x Z", 4, 3);
        fault(x, "x", 0, 3);
        fault(x, "Q", 0, 3);
        fault(x, "add Z", 5, 2);
        fault(x, "add Z ", 6, 2);
        fault(x, "add Z Z Z", 8, 2);
        fault(x, "Z;", 1, 2);
        fault(x, "S lo lo", 5, 2);
        fault(x, "S S Z", 2, 2);
        fault(x, "add Z T", 6, 4);
        fault(x, "S (if T T Z)", 8, 4);
        fault(x, "rule", 0, 2);
        fault(x, "S abcdefg", 2, 1);
        fault(x, Check.repeat("(", 11) + "Z" + Check.repeat(")", 11), 10, 5);
        worked(x, Check.repeat("(", 10) + "Z" + Check.repeat(")", 10), 0, 0, 0, "Z");
    }

    private static void printing(Counted x) {
        Check.work(x, "S (S Z)", 0);
        int[] want = {'S', ' ', '(', 'S', ' ', 'Z', ')'};
        for (int i = 0; i < want.length; i++) {
            Check.due("printed(" + i + ")", x.printed(i), want[i]);
        }
        Check.due("printed(7)", x.printed(7), EquationProofs.NONE);
        Check.due("printed(-1)", x.printed(-1), EquationProofs.NONE);
        Check.due("printed(int max)", x.printed(Integer.MAX_VALUE), EquationProofs.NONE);
        Check.due("printed(int min)", x.printed(Integer.MIN_VALUE), EquationProofs.NONE);
        Check.due("a fault", Check.work(x, "Q", 1), -1000);
        Check.due("prints nothing", Check.printed(x), "S (S Z)");
    }

    private static void worked(Counted x, String text, int steps, int answer, int taken, String printed) {
        Check.due("work(" + steps + ") of " + text, Check.work(x, text, steps), answer);
        if (answer >= 0 || answer == EquationProofs.OUTSIDE) {
            Check.due("steps of " + text, x.steps(), taken);
        }
        if (printed != null && answer > -1000) {
            Check.due(text + " is then", Check.printed(x), printed);
        }
    }

    private static void fault(Counted x, String text, int place, int kind) {
        Check.due("work of " + text, Check.work(x, text, 10), -1000 - place);
        Check.due("fault of " + text, x.fault(), kind);
    }
}
