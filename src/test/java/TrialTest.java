/** Promises 10 and 11: test, told. */
public final class TrialTest {
    public static void main(String[] args) {
        answers();
        orderOfValues();
        orderOfRows();
        rowsAtMost();
        stepsAtMost();
        refused();
        Check.finish();
    }

    private static void answers() {
        Counted x = Check.with(Check.NUMBERS + "fun lo:N;rule lo=S lo;fun st:N>N;rule st Z=lo;rule st (S x)=S x;"
                + "law a:add x Z=x;law b:add x y=add y x;law c:lo=lo;law d:Z=S Z;law e:st x=S x;law f:add lo x=lo;");
        Check.due("test(0, 6, true)", x.test(0, 6, true), 0);
        Check.due("test(1, 6, false)", x.test(1, 6, false), 0);
        Check.due("nothing is told", x.told(0), EquationProofs.STATE);
        Check.due("test(1, 1, true)", x.test(1, 1, true), 0);
        Check.due("test(1, 2, true)", x.test(1, 2, true), 1);
        told(x, 0, "_");
        told(x, 1, "S _");
        Check.due("told(2)", x.told(2), EquationProofs.UNKNOWN);
        Check.due("told(-1)", x.told(-1), EquationProofs.UNKNOWN);
        Check.due("lo is never done", x.test(2, 1, false), 2);
        Check.due("nor is a sum of it", x.test(5, 2, true), 2);
        told(x, 1, "S _");
        Check.due("a law without variables", x.test(3, 1, false), 1);
        Check.due("has nothing to tell", x.told(0), EquationProofs.UNKNOWN);
        // Of Z it is not done; of S Z it is, and differs: that counts.
        Check.due("test(4, 1, false)", x.test(4, 1, false), 2);
        Check.due("test(4, 2, false)", x.test(4, 2, false), 1);
        told(x, 0, "S Z");
        Check.read(x, "rule lo=Z;law g:add x y=y;");
        told(x, 0, "S Z");
        Check.due("test(6, 2, false)", x.test(6, 2, false), 1);
        told(x, 0, "S Z");
        told(x, 1, "Z");
        Check.due("a test that finds none", x.test(0, 3, true), 0);
        told(x, 1, "Z");
    }

    private static void orderOfValues() {
        String tree = "data W=A|B W|D W W;fun p:W>W;";
        // Of three names B comes ahead of D.
        first(tree + "rule p (D x y)=A;rule p (B (B x))=A;rule p x=B A;law a:p x=B A;", 3, false, "B (B A)");
        first(tree + "rule p (D (B x) y)=A;rule p (D x (B y))=A;rule p x=B A;law a:p x=B A;", 4, false, "D A (B A)");
        first(tree + "rule p (D (B x) y)=A;rule p x=B A;law a:p x=B A;", 6, false, "D (B A) A");
        first(tree + "rule p (B (D x y))=A;rule p (D x (B y))=A;rule p x=B A;law a:p x=B A;", 4, false, "B (D A A)");
        // The second argument's place counts behind the first one's.
        first(tree + "rule p (D A (D x y))=A;rule p (D A (B (B x)))=A;rule p (D (B x) (B y))=A;rule p x=B A;"
                + "law a:p x=B A;", 6, false, "D A (B (B A))");
        // The first constructor of all may have arguments, too.
        first("data W=B W|A;fun p:W>W;rule p (B (B x))=A;rule p x=B A;law a:p x=B A;", 6, false, "B (B A)");
        // With what is undefined, that is ahead of the constructors.
        first(tree + "law a:B x=A;", 6, true, "_");
        first(tree + "rule p (B x)=B x;law a:p x=_;", 6, true, "B _");
        first(tree + "rule p (D x y)=D x y;law a:p x=_;", 6, true, "D _ _");
        first(tree + "rule p (D x A)=A;law a:p x=_;", 6, true, "D _ A");
        first(tree + "rule p (D A x)=A;law a:p x=_;", 6, true, "D A _");
        first(tree + "rule p (D (B x) y)=A;law a:p x=_;", 6, true, "D (B _) _");
        Counted x = Check.with(tree + "rule p (B (B (B (B (B x)))))=B A;rule p x=A;law a:p x=A;");
        Check.due("five names", x.test(0, 5, false), 0);
        Check.due("six names", x.test(0, 6, false), 1);
        told(x, 0, "B (B (B (B (B A))))");
    }

    private static void first(String text, int size, boolean all, String value) {
        Counted x = Check.with(text);
        Check.due("test of " + text, x.test(0, size, all), 1);
        told(x, 0, value);
    }

    private static void orderOfRows() {
        String text = "data B=T|F;fun q:B>B>B>B;";
        row(text + "rule q F x y=F;rule q x F y=F;rule q x y F=F;rule q x y z=T;", false, "T T F");
        row(text + "rule q F x y=F;rule q x F y=F;rule q x y z=T;", false, "T F T");
        row(text + "rule q F x F=F;rule q x y z=T;", false, "F T F");
        row(text + "rule q T x y=T;rule q x T y=T;rule q F F T=T;", true, "T _ _");
    }

    private static void row(String text, boolean all, String values) {
        Counted x = Check.with(text + (all ? "law a:q x y z=_;" : "law a:q x y z=T;"));
        Check.due("test of " + text, x.test(0, 6, all), 1);
        for (int v = 0; v < 3; v++) {
            told(x, v, values.split(" ")[v]);
        }
    }

    private static void rowsAtMost() {
        String base = Check.NUMBERS + "data O=O1;data W=V W;data Q=U|C Q Q Q;fun o:O>N>N;rule o x y=y;fun w:W>Q>N;"
                + "rule w x y=S Z;";
        Counted x = Check.with(base + "law a:add x (add y z)=add (add x y) z;"
                + "law b:add x (add y (add z u))=add (add (add x y) z) u;"
                + "law c:o p (add x (add y z))=add (add x y) z;law d:w x y=Z;law e:C x y z=C x y z;");
        Check.due("12 * 12 * 12 rows", x.test(0, 6, true), 0);
        Check.due("6 * 6 * 6 * 6 rows", x.test(1, 6, false), 0);
        Check.due("8 * 8 * 8 * 8 rows", x.test(1, 4, true), EquationProofs.ROOM);
        Check.due("6 * 6 * 6 * 6 rows with _", x.test(1, 3, true), 0);
        Check.due("2 * 10 * 10 * 10 rows", x.test(2, 5, true), 0);
        Check.due("2 * 12 * 12 * 12 rows", x.test(2, 6, true), EquationProofs.ROOM);
        Check.due("no value, no row", x.test(3, 6, false), 0);
        Check.due("10 * 10 * 10 rows of Q", x.test(4, 6, true), 0);
        String ten = "data K=A0|A1|A2|A3|A4|A5|A6|A7|A8|A9;";
        Check.due("2000 rows of one variable",
                Check.with(ten + "data X=C K K K|D K K K;fun f:X>X;law a:f x=_;").test(0, 4, false), 0);
        Check.due("2001 rows of one variable",
                Check.with(ten + "data X=U|C K K K|D K K K;fun f:X>X;law a:f x=_;").test(0, 4, false),
                EquationProofs.ROOM);
        Counted many = Check.with("data X=X1|X2 X|X3 X X;data P=P X X X;law a:P x y z=P x y z;law b:X3 x y=X2 x;"
                + "law c:X2 x=x;");
        Check.due("188 * 188 * 188 rows", many.test(0, 6, true), EquationProofs.ROOM);
        Check.due("188 * 188 rows", many.test(1, 6, true), EquationProofs.ROOM);
        Check.due("38 * 38 rows", many.test(1, 6, false), 1);
        Check.due("188 rows", many.test(2, 6, true), 1);
        Check.due("2 * 2 * 2 rows", x.test(4, 1, true), 0);
        Check.due("no row was told", x.told(0), EquationProofs.STATE);
    }

    private static void stepsAtMost() {
        String slow = "data N=Z|S N;fun a:N>N;rule a x=x;fun b:N>N;rule b x=a (a (a (a (a x))));"
                + "fun c:N>N;rule c x=b (b (b (b (b x))));fun d:N>N;rule d x=c (c (c (c (c x))));";
        // One of a, 6 of b, 31 of c, 156 of d: 156 + 4 * 31 + 3 * 6 + 2.
        String steps300 = "d (c (c (c (c (b (b (b (a (a Z)))))))))";
        Counted x = Check.with(slow + "law l:" + steps300 + "=Z;law m:a (" + steps300 + ")=Z;law n:S Z=a ("
                + steps300 + ");");
        Check.due("300 steps", x.test(0, 1, false), 0);
        Check.due("301 steps", x.test(1, 1, false), 2);
        Check.due("301 steps at the right", x.test(2, 1, false), 2);
    }

    private static void refused() {
        Counted x = Check.with(Check.NUMBERS + "law a:add x Z=x;");
        Check.due("test(1, 1, true)", x.test(1, 1, true), EquationProofs.UNKNOWN);
        Check.due("test(-1, 0, true)", x.test(-1, 0, true), EquationProofs.UNKNOWN);
        Check.due("test(0, 0, true)", x.test(0, 0, true), EquationProofs.OUTSIDE);
        Check.due("test(0, 7, true)", x.test(0, 7, true), EquationProofs.OUTSIDE);
        Check.due("test(0, int min, true)", x.test(0, Integer.MIN_VALUE, true), EquationProofs.OUTSIDE);
    }

    private static void told(Counted x, int variable, String value) {
        Check.due("bytes of told(" + variable + ")", x.told(variable), value.length());
        Check.due("told(" + variable + ")", Check.printed(x), value);
    }
}
