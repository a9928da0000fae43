/** Promise 20: search. */
public final class SearchTest {
    private static final String LAWS = Check.NUMBERS + "law a:add x Z=x;law b:add x (S y)=S (add x y);"
            + "law c:add x y=add y x;law d:add (add x y) z=add x (add y z);";

    public static void main(String[] args) {
        rowsCounted();
        proofAsItWas();
        fromWhereItIs();
        order();
        lawsInOrder();
        splitsAtMost();
        casesOfFixed();
        deepPlaces();
        refused();
        Check.finish();
    }

    private static void rowsCounted() {
        Counted x = Check.with(LAWS);
        x.begin(0, true);
        // Induction; _ and Z: unfold, same; S: unfold, hypothesis, same.
        Check.due("one row too few", x.search(7), 0);
        Check.due("the goal is there", x.count(5), 1);
        Check.due("no row is done", x.count(6), 0);
        Check.due("not proved", x.about(0, 0), 0);
        Check.due("just enough rows", x.search(8), 8);
        Check.due("no goal", x.count(5), 0);
        Check.due("eight rows", x.count(6), 8);
        Check.due("FULL", x.about(0, 0), 2);
        Check.due("it is done", x.search(8), EquationProofs.STATE);
        x.begin(3, false);
        // Induction; Z: unfold twice, same; S: unfold three times, hypothesis, same.
        Check.due("FINITE", x.search(500), 9);
        Check.due("FINITE, proved", x.about(3, 0), 1);
    }

    private static void proofAsItWas() {
        Counted x = Check.with(LAWS);
        x.begin(2, true);
        x.induction(1);
        Check.due("a law that does not hold for all", x.search(500), 0);
        Check.due("goals", x.count(5), 3);
        Check.due("rows", x.count(6), 1);
        Check.due("the first goal", Check.goal(x, 0), "add v0 _ = add _ v0");
        Check.due("the last goal", Check.goal(x, 2), "add v0 (S v2) = add (S v2) v0");
        Check.due("numbers", x.cases(0, 1), 5);
        Check.due("numbers go on from where they were", Check.goal(x, 2), "add (S v3) _ = add _ (S v3)");
    }

    private static void fromWhereItIs() {
        Counted x = Check.with(LAWS);
        x.begin(0, true);
        x.induction(0);
        x.unfold(0, 0);
        Check.due("six rows are left", x.search(500), 6);
        Check.due("eight in all", x.count(6), 8);
    }

    /** Of a goal where several rows can be done, the first one of the order is. */
    private static void order() {
        Counted x = Check.with("data N=Z|S N;data B=T|F;fun lo:N;rule lo=S lo;fun a:N>N;rule a x=Z;fun b:N>N;"
                + "rule b x=S (b x);fun c:N>N>N;fun p:N>N;rule p (S x)=x;"
                + "law s:lo=lo;law t:c (a Z) (a lo)=c Z Z;law u:S (a lo)=S Z;law v:p x=p x;law w:p x=x;law y:Z=a Z;");
        x.begin(0, true);
        Check.due("same is ahead of unfold", x.search(500), 1);
        x.begin(1, true);
        Check.due("unfold: arguments from the left", x.search(500), 3);
        x.begin(2, true);
        Check.due("unfold is ahead of parts, the whole ahead of its arguments", x.search(500), 2);
        x.begin(3, true);
        Check.due("same without induction", x.search(500), 1);
        x.begin(5, true);
        Check.due("unfold on side 1", x.search(500), 2);
        x.begin(4, true);
        Check.due("not to be proved", x.search(500), 0);
        partsAndHypotheses();
        firstThatWaits();
    }

    private static void firstThatWaits() {
        String text = "data N=Z|S N;data B=T|F;data K=A1|A2|A3;fun c:N>N>N;rule c Z Z=Z;fun f:B>N;rule f T=Z;"
                + "rule f F=Z;fun g:K>N;rule g A1=Z;rule g A2=Z;rule g A3=Z;";
        Counted x = Check.with(text + "law a:c (f x) (g y)=Z;law b:c (g y) (f x)=Z;");
        x.begin(0, false);
        // x, then twice: unfold, y, three times two unfold and same.
        Check.due("the left one first", x.search(500), 1 + 2 * (2 + 3 * 3));
        x.begin(1, false);
        Check.due("the left one first, of three", x.search(500), 1 + 3 * (2 + 2 * 3));
        x = Check.with(text + "law d:c Z (f x)=c (g y) Z;");
        x.begin(0, false);
        Check.due("side 0 first", x.search(500), 1 + 2 * (3 + 3 * 3));
    }

    private static void partsAndHypotheses() {
        Counted x = Check.with(Check.NUMBERS + "data P=P N N;fun d:N>P;rule d x=P (add x Z) x;"
                + "law a:d x=P x x;law b:add x Z=x;");
        x.begin(0, true);
        // Unfold, parts, the eight rows of x + 0 = x with the first part, same.
        Check.due("parts", x.search(500), 11);
        x.begin(1, true);
        x.search(500);
        x.begin(0, true);
        // Unfold, law, same: laws are ahead of parts.
        Check.due("a law ahead of parts", x.search(500), 3);
    }

    private static void lawsInOrder() {
        Counted x = Check.with(LAWS);
        x.begin(0, true);
        x.search(500);
        x.begin(1, false);
        Check.due("law b", x.search(500), 8);
        x.begin(2, false);
        // Induction; Z: unfold, law a, same; S: unfold, hypothesis, law b, same.
        Check.due("law c by a and b", x.search(500), 8);
        x.begin(2, false);
        Check.due("not by itself", x.search(500), 8);
        x.begin(1, false);
        // Law c at the whole left side, unfold, law c, same.
        Check.due("law b by c", x.search(500), 6 - 2);
        x.begin(1, true);
        Check.due("a FULL proof has no FINITE laws", x.search(500), 0);
    }

    private static void splitsAtMost() {
        String strict = "data B=T|F;fun x2:B>B>B;rule x2 T T=T;rule x2 T F=T;rule x2 F T=T;rule x2 F F=T;";
        Counted x = Check.with(strict + "law f4:x2 (x2 a b) (x2 c d)=T;"
                + "law f5:x2 (x2 (x2 a b) (x2 c d)) e=T;");
        x.begin(1, false);
        Check.due("five in one another", x.search(500), 0);
        x.begin(0, false);
        // a: 1; b, twice: 2; unfold, 4; c, 4 times; d, 8 times; unfold twice and same, 16 times.
        Check.due("four in one another", x.search(500), 1 + 2 + 4 + 4 + 8 + 16 * 3);
        x.begin(1, false);
        // A law, then e: 2 goals with unfold and same each.
        Check.due("with the law of four", x.search(500), 1 + 1 + 2 * 2);
        x = Check.with(strict + "law f4:x2 (x2 a b) (x2 c d)=T;law g:x2 (x2 a b) (x2 c d)=x2 e e;");
        x.begin(1, false);
        Check.due("one by hand that is of no use", x.cases(1, 1), 2);
        Check.due("counts, too", x.search(500), 0);
        x.begin(0, false);
        Check.due("one by hand", x.induction(3), 2);
        Check.due("three by the search", x.search(500) > 0 ? 1 : 0, 1);
    }

    private static void casesOfFixed() {
        Counted x = Check.with("data B=T|F;data N=Z|S N;fun ev:N>B;rule ev Z=T;rule ev (S Z)=F;"
                + "rule ev (S (S x))=ev x;fun not:B>B;rule not T=F;rule not F=T;law a:ev (S x)=not (ev x);");
        x.begin(0, false);
        // Behind the hypothesis ev x is to be not (not (ev x)); cases of x, which is fixed, never come to an end.
        Check.due("cases without an end", x.search(500), 0);
        x = Check.with("data N=Z|S N;fun h:N>N;rule h Z=Z;rule h (S Z)=Z;rule h (S (S x))=S (h x);fun k:N>N;"
                + "rule k Z=Z;rule k (S Z)=Z;rule k (S (S x))=Z;law a:k x=Z;");
        x.begin(0, false);
        // Induction; Z: unfold, same; S v1: cases; S Z: unfold, same; S (S v2): unfold, same.
        Check.due("induction, then cases", x.search(500), 8);
        x.begin(0, false);
        Check.due("one row too few", x.search(7), 0);
    }

    private static void deepPlaces() {
        Counted x = Check.with(Check.NUMBERS + "fun g:N>N;rule g x=" + Check.repeat("S (", 9) + "S x"
                + Check.repeat(")", 9) + ";law a:g (g (add Z Z))=g (g Z);");
        x.begin(0, true);
        // Both g at the left, then what stands twenty deep, then both g at the right.
        Check.due("twenty deep", x.search(500), 6);
    }

    private static void refused() {
        Counted x = Check.with(LAWS);
        Check.due("search(0)", x.search(0), EquationProofs.OUTSIDE);
        Check.due("search(501)", x.search(501), EquationProofs.OUTSIDE);
        Check.due("search(-1)", x.search(-1), EquationProofs.OUTSIDE);
        Check.due("search(1) without a proof", x.search(1), EquationProofs.STATE);
        Check.due("search(500) without a proof", x.search(500), EquationProofs.STATE);
    }
}
