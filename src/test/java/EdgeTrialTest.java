import java.util.ArrayList;
import java.util.List;

/** The boundaries of promises 10 and 11: test, told. */
public final class EdgeTrialTest {
    private static final String TEN = "data K=A0|A1|A2|A3|A4|A5|A6|A7|A8|A9;";

    public static void main(String[] args) {
        sizes();
        undefinedOnlyForAll();
        rowsOfOneVariable();
        rowsOfSeveral();
        noValues();
        oneValue();
        sixOfAll();
        orderOfValues();
        orderOfUnfinished();
        steps300();
        names120();
        firstRow();
        doneOrNot();
        numbers();
        toldLast();
        tellsNothingNew();
        Check.finish();
    }

    private static void sizes() {
        Check.sentence("values with at most so many constructors and _ each (size 1 .. 6)");
        for (int size = -1; size <= 8; size++) {
            for (int names = 1; names <= 7; names++) {
                // It is not true of the one value with so many names.
                String value = Check.repeat("(S ", names - 1) + "Z" + Check.repeat(")", names - 1);
                Counted x = Check.with("data N=Z|S N;fun f:N>N;rule f " + value + "=Z;rule f x=S Z;law a:f x=S Z;");
                int want = size < 1 || size > 6 ? EquationProofs.OUTSIDE : size >= names ? 1 : 0;
                Check.due("test(0, " + size + ", false) of " + value, x.test(0, size, false), want);
            }
        }
        Counted x = Check.with("data N=Z;law a:Z=Z;");
        Check.due("a size far below", x.test(0, Integer.MIN_VALUE, false), EquationProofs.OUTSIDE);
        Check.due("a size far above", x.test(0, Integer.MAX_VALUE, false), EquationProofs.OUTSIDE);
        Check.sentence("with at most so many constructors and _ : _ counts");
        for (int size = 1; size <= 6; size++) {
            x = Check.with("data N=Z|S N;fun f:N>N;rule f (S (S Z))=Z;rule f (S (S (S x)))=S x;law a:f x=_;");
            Check.due("test(0, " + size + ", true)", x.test(0, size, true), size < 3 ? 0 : 1);
            x = Check.with("data N=Z|S N;fun f:N>N;rule f (S (S (S x)))=S x;rule f x=_;law a:f x=_;");
            Check.due("test(0, " + size + ", true) of S _", x.test(0, size, true), size < 4 ? 0 : 1);
            Check.due("what is told", x.told(0), size < 4 ? EquationProofs.STATE : "S (S (S _))".length());
        }
    }

    private static void undefinedOnlyForAll() {
        Check.sentence("_ only if it is for all values");
        Counted x = Check.with("data N=Z|S N;fun f:N>N;rule f Z=Z;rule f (S x)=S (f x);fun g:N>N;rule g x=Z;fun h:N>N;"
                + "rule h Z=Z;rule h (S x)=h x;law a:g x=h x;law b:f x=x;");
        Check.due("finite", x.test(0, 6, false), 0);
        Check.due("all", x.test(0, 1, true), 1);
        Check.due("_ is first", x.told(0), 1);
        Check.due("told", Check.printed(x), "_");
        Check.due("finite, too", x.test(1, 6, false), 0);
        Check.due("all, too", x.test(1, 6, true), 0);
    }

    private static void rowsOfOneVariable() {
        Check.sentence("2000 rows of values at most; ROOM (more rows)");
        // 1 + 2 * 9 * 3 * 4 + 9 * 9 * 4 + 2 * 9 * 9 * 9 values with five names at most.
        String below = "data K=A1|A2|A3|A4|A5|A6|A7|A8;data N=Z|S N;"
                + "data X=A K N N|B K N N|C K K N|D K K K|E K K K;fun f:X>N;";
        Counted x = Check.with(below + "rule f (C A8 A8 (S Z))=Z;law a:f x=_;");
        Check.due("1999 rows", x.test(0, 5, true), 1);
        Check.due("the last one is told", x.told(0), "C A8 A8 (S Z)".length());
        Check.due("told", Check.printed(x), "C A8 A8 (S Z)");
        Check.due("1999 rows, one size more", x.test(0, 6, true), EquationProofs.ROOM);
        x = Check.with(TEN + "data X=C K K K|D K K K;fun f:X>X;rule f (D A9 A9 A9)=C A0 A1 A2;law a:f x=_;");
        Check.due("2000 rows", x.test(0, 4, false), 1);
        Check.due("the last one is told", x.told(0), "D A9 A9 A9".length());
        Check.due("told", Check.printed(x), "D A9 A9 A9");
        x = Check.with(TEN + "data X=U|C K K K|D K K K;fun f:X>X;rule f U=U;law a:f x=_;");
        Check.due("2001 rows", x.test(0, 4, false), EquationProofs.ROOM);
        Check.due("not one was tried", x.told(0), EquationProofs.STATE);
        Check.due("2001 rows, one size less", x.test(0, 3, false), 1);
    }

    private static void rowsOfSeveral() {
        Check.sentence("2000 rows of values at most: those of all variables together");
        String base = TEN + "data B=T|F;data P=P K K K;data R=R P B;fun f:K>K>K>B>B;";
        Counted x = Check.with(base + "rule f A9 A9 A9 F=F;law a:f x y z b=_;");
        Check.due("10 * 10 * 10 * 2 rows", x.test(0, 1, false), 1);
        Check.due("the last row", x.told(0), 2);
        Check.due("of the first variable", Check.printed(x), "A9");
        x.told(3);
        Check.due("of the last variable", Check.printed(x), "F");
        Check.due("11 * 11 * 11 * 3 rows", x.test(0, 1, true), EquationProofs.ROOM);
        x = Check.with(TEN + "data B=T|F|M;fun f:K>K>K>B>B;law a:f x y z b=_;");
        Check.due("10 * 10 * 10 * 3 rows", x.test(0, 1, false), EquationProofs.ROOM);
        x = Check.with("data N=Z|S N;data C=C N N N;law a:C x y z=C x y (S z);law b:C (S u) v w=C u v w;"
                + "law c:Z=Z;law d:C x y z=C x y z;");
        Check.due("a law without variables has one row", x.test(2, 6, true), 0);
        Check.due("12 * 12 * 12 rows", x.test(3, 6, true), 0);
        String side = "C (D a b) (D c d) (D e f)";
        x = Check.with("data N=Z|S N;data D=D N N;data C=C D D D;law a:" + side + "=" + side + ";");
        Check.due("3 to the 6th rows", x.test(0, 3, false), 0);
        Check.due("4 to the 6th rows", x.test(0, 4, false), EquationProofs.ROOM);
        Check.due("2 to the 6th rows", x.test(0, 1, true), 0);
        Check.due("12 to the 6th rows", x.test(0, 6, true), EquationProofs.ROOM);
    }

    private static void noValues() {
        Check.sentence("all values: a type may have none that is finite");
        Counted x = Check.with("data W=V W;data N=Z|S N;fun f:W>N>N;rule f x y=S Z;law a:f x y=Z;");
        Check.due("no row: all were DONE", x.test(0, 6, false), 0);
        Check.due("nothing is told", x.told(0), EquationProofs.STATE);
        Check.due("with _ there are rows", x.test(0, 1, true), 1);
    }

    private static void oneValue() {
        Check.sentence("all values: a type may have one alone");
        Counted x = Check.with("data O=O1;data B=T|F;fun f:O>B>O>B>B;rule f x T y z=T;rule f x F y F=T;law a:f a b c d=T;");
        Check.due("four rows", x.test(0, 6, false), 1);
        String[] values = {"O1", "F", "O1", "T"};
        for (int v = 0; v < values.length; v++) {
            Check.due("told(" + v + ")", x.told(v), values[v].length());
            Check.due("printed", Check.printed(x), values[v]);
        }
    }

    private static void sixOfAll() {
        Check.sentence("TYPES (6 at most), CONSTRUCTORS (16 in all), variables (6 at most): a law over all of them");
        Counted x = Check.with("data A=A1|A2|A3;data B=B1|B2|B3;data C=C1|C2|C3;data D=D1|D2|D3;data E=E1 A B C;"
                + "data F=F1 D D E|F2|F3;fun f:F>B>F;rule f (F1 D3 D2 (E1 A3 B3 C3)) B2=F2;rule f x y=F3;"
                + "law a:f (F1 d e (E1 a b c)) g=F3;");
        Check.due("types", x.count(0), 6);
        Check.due("constructors", x.count(1), 16);
        Check.due("3 to the 6th rows", x.test(0, 6, false), 1);
        told(x, "D3", "D2", "A3", "B3", "C3", "B2");
        Check.due("there is no seventh", x.told(6), EquationProofs.UNKNOWN);
        Check.due("4 to the 6th rows", x.test(0, 6, true), EquationProofs.ROOM);
    }

    /** Values of W with so many names, in order; with _ , or without. */
    private static List<String> values(int names, boolean all) {
        List<String> found = new ArrayList<>();
        if (names == 1) {
            if (all) {
                found.add("_");
            }
            found.add("A");
        }
        for (String value : names > 1 ? values(names - 1, all) : new ArrayList<String>()) {
            found.add("B " + atom(value));
        }
        for (int first = 1; first < names - 1; first++) {
            for (String one : values(first, all)) {
                for (String other : values(names - 1 - first, all)) {
                    found.add("D " + atom(one) + " " + atom(other));
                }
            }
        }
        return found;
    }

    private static String atom(String value) {
        return value.length() > 1 ? "(" + value + ")" : value;
    }

    private static void orderOfValues() {
        Check.sentence("VALUES go by how many constructors they have, then constructors, then the first argument's place");
        List<String> all = new ArrayList<>();
        for (int names = 1; names <= 6; names++) {
            all.addAll(values(names, false));
        }
        Check.due("values with six names at most", all.size(), 1 + 1 + 2 + 4 + 9 + 21);
        for (int k = 0; k + 1 < all.size(); k++) {
            // It is not true of two values alone; the first of them is told.
            Counted x = Check.with("data W=A|B W|D W W;fun f:W>W;rule f " + atom(all.get(k + 1)) + "=A;rule f "
                    + atom(all.get(k)) + "=A;law a:f x=_;");
            Check.due("test of " + all.get(k), x.test(0, 6, false), 1);
            Check.due("told", x.told(0), all.get(k).length());
            Check.due("printed", Check.printed(x), all.get(k));
        }
    }

    private static void orderOfUnfinished() {
        Check.sentence("VALUES: _ ahead of the constructors in order");
        List<String> all = new ArrayList<>();
        for (int names = 1; names <= 5; names++) {
            all.addAll(values(names, true));
        }
        for (int k = 0; k < all.size(); k++) {
            // What is wanted of the value, but for its _ , is true first of the value itself.
            String pattern = atom(all.get(k));
            for (char name = 'a'; pattern.indexOf('_') >= 0; name++) {
                pattern = pattern.replaceFirst("_", String.valueOf(name));
            }
            if (pattern.startsWith("(")) {
                Counted x = Check.with("data W=A|B W|D W W;fun f:W>W;rule f " + pattern + "=A;law a:f x=_;");
                Check.due("test of " + all.get(k), x.test(0, 5, true), 1);
                Check.due("told", x.told(0), all.get(k).length());
                Check.due("printed", Check.printed(x), all.get(k));
            }
        }
    }

    private static void steps300() {
        Check.sentence("each side worked out with at most 300 steps");
        String slow = "data N=Z|S N;fun a:N>N;rule a x=x;fun b:N>N;rule b x=a (a (a (a (a x))));"
                + "fun c:N>N;rule c x=b (b (b (b (b x))));fun d:N>N;rule d x=c (c (c (c (c x))));";
        // One step of a, 6 of b, 31 of c, 156 of d: 156 + 4 * 31 + 3 * 6 + 1.
        String steps299 = "d (c (c (c (c (b (b (b (a Z))))))))";
        String steps300 = "a (" + steps299 + ")";
        String steps301 = "a (" + steps300 + ")";
        int[] want = {0, 0, 2};
        String[] sides = {steps299, steps300, steps301};
        for (int k = 0; k < sides.length; k++) {
            Counted x = Check.with(slow + "law l:" + sides[k] + "=Z;law m:Z=" + sides[k] + ";law n:" + sides[k] + "="
                    + sides[k] + ";law o:S Z=" + sides[k] + ";");
            Check.due((299 + k) + " steps at the left", x.test(0, 1, false), want[k]);
            Check.due((299 + k) + " steps at the right", x.test(1, 1, false), want[k]);
            Check.due((299 + k) + " steps on each side", x.test(2, 1, false), want[k]);
            Check.due("not alike behind " + (299 + k), x.test(3, 1, false), k < 2 ? 1 : 2);
        }
    }

    private static void names120() {
        Check.sentence("each side worked out: the term would have more than 120 names");
        String base = "data Q=U|C Q Q Q|E Q;fun t:Q>Q;rule t x=C x x x;fun p:Q>Q;rule p x=E (t x);fun q:Q>Q;"
                + "rule q x=E (E (t x));fun r:Q>Q;rule r x=E (E (E (t x)));";
        String four = "(C U U U)";
        String thirteen = "(C " + four + four + four + ")";
        String names39 = "(C " + thirteen + thirteen + "(C " + four + four + "(E (E U))))";
        Counted x = Check.with(base + "law a:p " + names39 + "=U;law b:q " + names39 + "=U;law c:r " + names39 + "=U;");
        Check.due("119 names", x.test(0, 1, false), 1);
        Check.due("120 names", x.test(1, 1, false), 1);
        Check.due("121 names", x.test(2, 1, false), 2);
    }

    private static void firstRow() {
        Check.sentence("the first such row is told; rows go as numbers: the last variable's value is the next one first");
        String base = "data B=T|F;fun q:B>B>B;";
        row(base + "rule q T T=F;rule q x y=F;", "T T");
        row(base + "rule q T T=T;rule q x y=F;", "T F");
        row(base + "rule q T x=T;rule q x y=F;", "F T");
        row(base + "rule q T x=T;rule q F T=T;rule q x y=F;", "F F");
        Counted x = Check.with(base + "rule q x y=T;law a:q x y=T;");
        Check.due("no such row", x.test(0, 6, false), 0);
    }

    private static void row(String text, String values) {
        Counted x = Check.with(text + "law a:q x y=T;");
        Check.due("test of " + text, x.test(0, 6, false), 1);
        for (int v = 0; v < 2; v++) {
            Check.due("told(" + v + ")", x.told(v), 1);
            Check.due("printed", Check.printed(x), values.split(" ")[v]);
        }
    }

    private static void doneOrNot() {
        Check.sentence("1 for some row both are DONE, and are not alike; else 0 all were DONE; 2 some were not");
        String base = "data B=T|F;fun lp:B;rule lp=lp;fun f:B>B;";
        answer(base + "rule f x=T;law a:f x=T;", 0);
        answer(base + "rule f T=T;rule f F=lp;law a:f x=T;", 2);
        answer(base + "rule f T=lp;rule f F=T;law a:f x=T;", 2);
        answer(base + "rule f x=lp;law a:f x=T;", 2);
        answer(base + "rule f T=lp;rule f F=F;law a:f x=T;", 1);
        answer(base + "rule f T=F;rule f F=lp;law a:f x=T;", 1);
        answer(base + "rule f x=lp;law a:f x=lp;", 2);
        answer(base + "law a:T=f lp;", 1);
        answer(base + "law a:T=lp;", 2);
        answer(base + "law a:lp=T;", 2);
        answer(base + "law a:f T=lp;", 2);
    }

    private static void answer(String text, int want) {
        Counted x = Check.with(text);
        Check.due("test of " + text, x.test(0, 1, false), want);
        Check.due("told", x.told(0) == EquationProofs.STATE ? 0 : 1, want == 1 ? 1 : 0);
    }

    private static void numbers() {
        Check.sentence("test: UNKNOWN, OUTSIDE, ROOM; told: STATE (none was told), UNKNOWN");
        Counted x = Check.with(TEN + "data X=U|C K K K|D K K K;law a:U=x;law b:C x y z=D x y z;");
        int[] none = {-1, 2, 16, Integer.MIN_VALUE, Integer.MAX_VALUE};
        for (int law : none) {
            Check.due("test(" + law + ", 1)", x.test(law, 1, true), EquationProofs.UNKNOWN);
            Check.due("test(" + law + ", 0)", x.test(law, 0, true), EquationProofs.UNKNOWN);
            Check.due("told(" + law + ")", x.told(law), EquationProofs.STATE);
        }
        Check.due("OUTSIDE, not ROOM", x.test(0, 7, true), EquationProofs.OUTSIDE);
        Check.due("ROOM", x.test(0, 6, true), EquationProofs.ROOM);
        Check.due("still nothing is told", x.told(0), EquationProofs.STATE);
        Check.due("test(1, 1, false)", x.test(1, 1, false), 1);
        for (int variable = 0; variable < 3; variable++) {
            Check.due("told(" + variable + ")", x.told(variable), 2);
        }
        for (int variable : new int[] {-1, 3, 6, Integer.MIN_VALUE, Integer.MAX_VALUE}) {
            Check.due("told(" + variable + ")", x.told(variable), EquationProofs.UNKNOWN);
        }
    }

    private static void toldLast() {
        Check.sentence("The value of a law's variable in the row told last");
        Counted x = Check.with("data N=Z|S N;fun f:N>N>N;rule f x y=x;law a:f x y=y;law b:f x y=x;law c:Z=S Z;law d:S x=Z;");
        Check.due("law a", x.test(0, 2, false), 1);
        told(x, "Z", "S Z");
        Check.due("law b tells none", x.test(1, 2, false), 0);
        told(x, "Z", "S Z");
        Check.due("law d", x.test(3, 2, false), 1);
        told(x, "Z");
        Check.due("it has one variable", x.told(1), EquationProofs.UNKNOWN);
        Check.due("law c", x.test(2, 2, false), 1);
        Check.due("it has none", x.told(0), EquationProofs.UNKNOWN);
        Check.due("law a for all", x.test(0, 2, true), 1);
        told(x, "_", "Z");
        Check.read(x, "rule f x y=y;law e:f x y=x;");
        told(x, "_", "Z");
    }

    private static void told(Counted x, String... values) {
        for (int v = 0; v < values.length; v++) {
            Check.due("told(" + v + ")", x.told(v), values[v].length());
            Check.due("printed", Check.printed(x), values[v]);
        }
    }

    private static void tellsNothingNew() {
        Check.sentence("a test prints nothing, and is no row of a proof");
        Counted x = Check.with(Check.NUMBERS + "law a:add x y=add y x;");
        x.begin(0, false);
        x.induction(0);
        x.showLaw(0, 0);
        Check.due("test", x.test(0, 2, true), 1);
        Check.due("what was printed", Check.printed(x), "add v0 v1");
        Check.due("goals", x.count(5), 2);
        Check.due("rows", x.count(6), 1);
        Check.due("it is not proved", x.about(0, 0), 0);
    }
}
