/** Promises 12 to 19: begin, unfold, law, hypothesis, induction, cases, same, parts. */
public final class RowsTest {
    private static final int OUTSIDE = EquationProofs.OUTSIDE;
    private static final int STATE = EquationProofs.STATE;
    private static final int UNKNOWN = EquationProofs.UNKNOWN;
    private static final int WRONG = EquationProofs.WRONG;
    private static final int ROOM = EquationProofs.ROOM;

    private static final String LAWS = Check.NUMBERS + "law a:add x Z=x;law b:add x (S y)=S (add x y);"
            + "law c:add x y=add y x;law d:add (add x y) z=add x (add y z);";
    private static final String CHOICE = "data B=T|F;data N=Z|S N;fun ev:N>B;rule ev Z=T;rule ev (S Z)=F;"
            + "rule ev (S (S x))=ev x;fun if:B>N>N>N;rule if T x y=x;rule if F x y=y;"
            + "law a:if (ev x) x y=if (ev x) y x;law b:if b x x=x;";

    public static void main(String[] args) {
        beginning();
        unfolding();
        places();
        usingLaws();
        sureLaws();
        lawsOutOfPlace();
        inducting();
        usingHypotheses();
        sureHypotheses();
        casesOfVariables();
        casesOfCalls();
        fixedFromThenOn();
        sameAndParts();
        refusals();
        Check.finish();
    }

    private static void beginning() {
        Counted x = Check.with(LAWS);
        Check.due("begin(4, true)", x.begin(4, true), UNKNOWN);
        Check.due("begin(-1, true)", x.begin(-1, true), UNKNOWN);
        Check.due("begin(3, true)", x.begin(3, true), 1);
        goal(x, 0, "add (add v0 v1) v2 = add v0 (add v1 v2)");
        Check.due("hypotheses", x.count(7), 0);
        x.induction(0);
        Check.due("begin that is refused", x.begin(9, false), UNKNOWN);
        Check.due("leaves the proof", x.count(5), 3);
        Check.due("begin again", x.begin(0, false), 1);
        goal(x, 0, "add v0 Z = v0");
        Check.due("rows", x.count(6), 0);
    }

    private static void unfolding() {
        Counted x = Check.with(Check.NUMBERS + "fun un:N>N;fun lo:N;rule lo=S lo;"
                + "law a:add (S x) (add _ y)=S (un (add x Z));law b:lo=lo;");
        x.begin(0, true);
        Check.due("it waits for a variable", x.unfold(1, 11), WRONG);
        Check.due("a constructor", x.unfold(1, 0), WRONG);
        Check.due("a variable", x.unfold(0, 11), WRONG);
        Check.due("_", x.unfold(0, 21), WRONG);
        goal(x, 0, "add (S v0) (add _ v1) = S (un (add v0 Z))");
        Check.due("an argument that is undefined", x.unfold(0, 2), 1);
        goal(x, 0, "add (S v0) _ = S (un (add v0 Z))");
        Check.due("the second rule", x.unfold(0, 0), 1);
        goal(x, 0, "S (add v0 _) = S (un (add v0 Z))");
        Check.due("no rule fits", x.unfold(1, 1), 1);
        goal(x, 0, "S (add v0 _) = S _");
        Check.due("rows", x.count(6), 3);
        x.begin(1, true);
        x.unfold(0, 0);
        x.unfold(0, 1);
        goal(x, 0, "S (S lo) = lo");
        unfoldingRoom();
    }

    private static void unfoldingRoom() {
        // The right side doubles its first argument: 60 names of the first law, 61 of the second one.
        String four = "(M Z Z Z)";
        String sixteen = "(M " + four + " " + four + " (M " + four + " Z Z))";
        String nineteen = "(S (S (S " + sixteen + ")))";
        String twenty = "(S " + nineteen + ")";
        String eighteen = "(S (S " + sixteen + "))";
        String text = "data N=Z|S N|M N N N;fun m:N>N>N;rule m x y=M x x y;law a:m " + twenty + " " + nineteen
                + "=Z;law b:m (S " + twenty + ") " + eighteen + "=Z;law c:m x y=M x x y;";
        Counted x = Check.with(text);
        Check.due("forty names", x.about(0, 2), 40);
        x.begin(0, true);
        Check.due("60 names", x.unfold(0, 0), 1);
        Check.due("forty names, too", x.about(1, 2), 40);
        x.begin(1, true);
        Check.due("61 names", x.unfold(0, 0), ROOM);
        Check.due("no row", x.count(6), 0);
        x.begin(2, true);
        x.unfold(0, 0);
        x.same();
        x.begin(1, true);
        Check.due("61 names by a law", x.law(2, false, 0, 0), ROOM);
        x.begin(0, true);
        Check.due("60 names by a law", x.law(2, false, 0, 0), 1);
        Check.due("a search has no room, either", searchOf(text, 1), 0);
    }

    private static int searchOf(String text, int law) {
        Counted x = Check.with(text);
        x.begin(law, true);
        return x.search(10);
    }

    private static void places() {
        Counted x = Check.with("data B=T|F;data N=Z|S N;fun q:B>N>B>N>N;rule q b x c y=y;"
                + "law a:S (q T Z F (S (q T Z F (q F Z F Z))))=Z;");
        x.begin(0, true);
        int[] none = {2, 3, 5, 10, 15, 16, 19, 101, 111, 121, 142, 1415, 14141, 141441, 1111111111,
            1414141414, Integer.MAX_VALUE};
        for (int place : none) {
            Check.due("unfold at " + place, x.unfold(0, place), WRONG);
            Check.due("cases at " + place, x.cases(0, place), WRONG);
        }
        Check.due("unfold(0, 14144)", x.unfold(0, 14144), WRONG);
        Check.due("unfold(0, 1414)", x.unfold(0, 1414), 1);
        goal(x, 0, "S (q T Z F (S (q T Z F Z))) = Z");
        Check.due("unfold(0, 1)", x.unfold(0, 1), 1);
        goal(x, 0, "S (S (q T Z F Z)) = Z");
        Check.due("unfold(0, 11)", x.unfold(0, 11), 1);
        goal(x, 0, "S (S Z) = Z");
    }

    private static void usingLaws() {
        Counted x = Check.with(LAWS + "fun fst:N>N>N;rule fst x y=x;law e:fst x y=x;fun id:N>N;rule id x=x;"
                + "law f:id x=x;law g:fst x x=id x;data B=T|F;fun z:N>B;rule z Z=T;rule z (S x)=F;law h:z Z=T;");
        x.begin(3, true);
        Check.due("a law that is not proved", x.law(0, false, 0, 0), WRONG);
        for (int l : new int[] {4, 5, 6}) {
            x.begin(l, true);
            Check.due("search of " + l, x.search(9) > 0 ? 1 : 0, 1);
        }
        x.begin(0, true);
        x.search(50);
        x.begin(3, true);
        Check.due("a law of a FULL proof", x.law(5, true, 0, 12), 1);
        goal(x, 0, "add (add v0 (id v1)) v2 = add v0 (add v1 v2)");
        Check.due("back", x.law(0, true, 1, 0), 1);
        goal(x, 0, "add (add v0 (id v1)) v2 = add (add v0 (add v1 v2)) Z");
        Check.due("not back", x.law(0, false, 1, 0), 1);
        goal(x, 0, "add (add v0 (id v1)) v2 = add v0 (add v1 v2)");
        Check.due("not like its left side", x.law(0, false, 1, 0), WRONG);
        Check.due("back, with a variable more", x.law(4, true, 0, 0), WRONG);
        Check.due("not like its right side", x.law(6, true, 0, 0), WRONG);
        Check.due("fst of two alike, back", x.law(6, true, 0, 12), 1);
        goal(x, 0, "add (add v0 (fst v1 v1)) v2 = add v0 (add v1 v2)");
        Check.due("fst of two alike", x.law(6, false, 0, 12), 1);
        Check.due("the law that is to be proved", x.law(3, false, 0, 0), WRONG);
        x.begin(4, true);
        Check.due("fst of two that are not alike", x.law(6, false, 0, 0), WRONG);
        Check.due("a law that is proved, in a proof of its own", x.law(4, false, 0, 0), 1);
        typesOfLaws();
        x.begin(7, true);
        Check.due("of another type", x.law(5, true, 0, 0), WRONG);
        Check.due("of its type", x.law(5, true, 0, 1), 1);
        goal(x, 0, "z (id Z) = T");
        Check.read(x, "law i:z _=T;");
        x.begin(8, true);
        Check.due("_ is of any type", x.law(5, true, 0, 1), 1);
        goal(x, 0, "z (id _) = T");
        growing(x);
    }

    private static void typesOfLaws() {
        Counted x = Check.with("data B=T|F;data N=Z|S N;fun z:B>N;fun id:N>N;rule id x=x;law a:id x=x;"
                + "law b:z T=S Z;");
        x.begin(0, true);
        x.search(9);
        x.begin(1, true);
        Check.due("of the type 0", x.law(0, true, 0, 1), WRONG);
        Check.due("of the type 1", x.law(0, true, 0, 0), 1);
        goal(x, 0, "id (z T) = S Z");
    }

    private static void growing(Counted x) {
        x.begin(0, true);
        for (int names = 5; names <= 59; names += 2) {
            Check.due("back to " + names + " names", x.law(0, true, 0, 0), 1);
        }
        Check.due("back to 61 names", x.law(0, true, 0, 0), ROOM);
        Check.due("rows", x.count(6), 28);
    }

    private static void sureLaws() {
        Counted x = Check.with(LAWS);
        x.begin(1, false);
        Check.due("search", x.search(50), 8);
        x.begin(0, true);
        x.search(50);
        Check.due("FINITE", x.about(1, 0), 1);
        x.begin(1, true);
        Check.due("a FINITE law in a FULL proof", x.law(1, false, 0, 0), WRONG);
        x.begin(1, false);
        Check.due("a FINITE law in a FINITE proof", x.law(1, false, 0, 0), 1);
        goal(x, 0, "S (add v0 v1) = S (add v0 v1)");
        x.begin(1, false);
        Check.due("a FULL law on a variable", x.law(0, true, 0, 1), 1);
        goal(x, 0, "add (add v0 Z) (S v1) = S (add v0 v1)");
        Check.due("a FINITE law on a call", x.law(1, false, 0, 0), WRONG);
        Check.due("a FULL law on a call", x.law(0, true, 0, 1), 1);
        goal(x, 0, "add (add (add v0 Z) Z) (S v1) = S (add v0 v1)");
        Check.read(x, "law e:add (S (S x)) (S (S Z))=add _ (S Z);");
        x.begin(4, false);
        Check.due("on constructors and sure variables", x.law(1, false, 0, 0), 1);
        goal(x, 0, "S (add (S (S v0)) (S Z)) = add _ (S Z)");
        Check.due("on _", x.law(1, false, 1, 0), WRONG);
    }

    /** What is undefined has any type, so that a law may bring a term of another type to its place. */
    private static void lawsOutOfPlace() {
        Counted x = Check.with("data B=T|F;data N=Z|S N;fun u:N;law a:u=_;fun z:N>B;rule z Z=T;"
                + "fun y:B>B;law b:y (z _)=_;");
        x.begin(0, true);
        x.unfold(0, 0);
        x.same();
        x.begin(1, true);
        Check.due("a right side that is _", x.law(0, true, 0, 11), 1);
        goal(x, 0, "y (z u) = _");
        Check.due("the whole side", x.law(0, true, 1, 0), 1);
        goal(x, 0, "y (z u) = u");
    }

    private static void inducting() {
        Counted x = Check.with(LAWS);
        x.begin(3, true);
        Check.due("FULL", x.induction(1), 3);
        goal(x, 0, "add (add v0 _) v2 = add v0 (add _ v2)");
        goal(x, 1, "add (add v0 Z) v2 = add v0 (add Z v2)");
        goal(x, 2, "add (add v0 (S v3)) v2 = add v0 (add (S v3) v2)");
        Check.due("no hypotheses of _", x.count(7), 0);
        x.begin(3, false);
        Check.due("FINITE", x.induction(1), 2);
        goal(x, 0, "add (add v0 Z) v2 = add v0 (add Z v2)");
        Check.due("it is gone", x.induction(1), WRONG);
        Check.due("none such", x.induction(3), WRONG);
        Check.due("below 0", x.induction(-1), WRONG);
        Check.due("far beyond", x.induction(Integer.MAX_VALUE), WRONG);
        Check.due("another one", x.induction(2), 3);
        x.begin(3, false);
        x.induction(0);
        Check.due("number 0 is gone", x.induction(0), WRONG);
        x.begin(3, false);
        x.induction(2);
        goal(x, 1, "add (add v0 v1) (S v3) = add v0 (add v1 (S v3))");
        x = Check.with("data W=V W;fun k:W;rule k=V k;law a:k=x;law b:V k=_;");
        x.begin(0, true);
        Check.due("of a variable that is a whole side", x.induction(0), 2);
        goal(x, 1, "k = V v1");
        x.begin(0, true);
        Check.due("cases of it", x.cases(1, 0), 2);
        goal(x, 0, "k = _");
        goal(x, 1, "k = V v1");
        x.begin(0, false);
        Check.due("induction where no value is finite", x.induction(0), 1);
        x.unfold(0, 0);
        Check.due("its hypothesis", x.hypothesis(0, false, 0, 1), 1);
        Check.due("k is all finite values", x.same(), 0);
        x.begin(1, false);
        Check.due("a right side with a variable more", x.law(0, false, 0, 1), WRONG);
        Check.due("back it is another variable alone, of what is not sure", x.law(0, true, 0, 1), WRONG);
        trees();
        inductingRoom();
    }

    private static void trees() {
        Counted x = Check.with("data B=T|F;data Q=U|C Q B Q;fun w:Q>Q>Q;law a:w x y=w x y;");
        x.begin(0, false);
        Check.due("a tree", x.induction(0), 2);
        Check.due("the leaf", x.same(), 1);
        goal(x, 0, "w (C v2 v3 v4) v1 = w (C v2 v3 v4) v1");
        Check.due("one hypothesis for each of its type", x.count(7), 2);
        hypothesis(x, 0, "w v2 f1 = w v2 f1");
        hypothesis(x, 1, "w v4 f1 = w v4 f1");
        Check.due("new variables are fixed", x.induction(2), WRONG);
        Check.due("those of another type, too", x.induction(3), WRONG);
        Check.due("the other one is not", x.induction(1), 2);
        x.same();
        goal(x, 0, "w (C v2 v3 v4) (C v5 v6 v7) = w (C v2 v3 v4) (C v5 v6 v7)");
        Check.due("old hypotheses and new ones", x.count(7), 4);
        hypothesis(x, 0, "w v2 f1 = w v2 f1");
        hypothesis(x, 2, "w (C v2 v3 v4) v5 = w (C v2 v3 v4) v5");
        hypothesis(x, 3, "w (C v2 v3 v4) v7 = w (C v2 v3 v4) v7");
    }

    private static void inductingRoom() {
        String twelve = "data K=A1|A2|A3|A4|A5|A6|A7|A8|A9|B1|B2|B3;fun k:K>K;rule k x=x;law a:k x=x;";
        Counted x = Check.with(twelve);
        x.begin(0, true);
        Check.due("13 goals", x.induction(0), ROOM);
        Check.due("13 goals of cases", x.cases(0, 1), ROOM);
        goal(x, 0, "k v0 = v0");
        x.begin(0, false);
        Check.due("12 goals", x.induction(0), 12);
        Check.due("12 goals more of a call", x.cases(0, 0), ROOM);
        Check.due("rows", x.count(6), 1);
        x = Check.with(twelve + "data B=T|F;fun p:B>K>K;law b:p x y=p x y;");
        x.begin(1, false);
        Check.due("2 goals", x.induction(0), 2);
        Check.due("one with 12 more", x.induction(1), ROOM);
        x.same();
        Check.due("alone, 12", x.induction(1), 12);
        Counted y = Check.with("data Q=U|C Q Q Q;data D=D1|D2 D;fun w:Q>Q>Q;fun e:D>Q;"
                + "law a:w x (w y (w z (e u)))=w x (w y (w z (e u)));");
        y.begin(0, false);
        for (int v = 0; v < 2; v++) {
            Check.due("induction " + v, y.induction(v), 2);
            Check.due("same " + v, y.same(), 1);
        }
        Check.due("six hypotheses", y.count(7), 6);
        Check.due("nine would be too many", y.induction(2), ROOM);
        Check.due("seven", y.induction(3), 2);
        y.same();
        Check.due("seven hypotheses", y.count(7), 7);
        Check.due("eight by a call", y.cases(0, 222), 3);
        Check.due("eight hypotheses", y.count(7), 8);
        Check.due("nine by a call", y.cases(0, 0), ROOM);
        numbersAtMost();
    }

    private static void numbersAtMost() {
        String nine = "data Q=C1 Q Q Q";
        for (int c = 2; c <= 9; c++) {
            nine += "|C" + c + " Q Q Q";
        }
        Counted x = Check.with(nine + ";data R=R1|R2 R;data P=P Q Q R;"
                + "law a:P (C1 x y z) (C1 u v x) w=P (C1 x y z) (C1 u v x) w;");
        x.begin(0, false);
        for (int turn = 0; turn < 2; turn++) {
            Check.due("27 variables more", x.cases(0, turn == 0 ? 11 : 12), 9);
            for (int goals = 8; goals >= 1; goals--) {
                Check.due("same", x.same(), goals);
            }
        }
        Check.due("all 60 are given: none more", x.cases(0, 13), ROOM);
        Check.due("not one", x.cases(0, 3), ROOM);
        goal(x, 0, "P (C1 (C9 v30 v31 v32) (C9 v57 v58 v59) v2) (C1 v3 v4 (C9 v30 v31 v32)) v5 = "
                + "P (C1 (C9 v30 v31 v32) (C9 v57 v58 v59) v2) (C1 v3 v4 (C9 v30 v31 v32)) v5");
    }

    private static void usingHypotheses() {
        Counted x = Check.with(LAWS);
        x.begin(3, true);
        x.induction(0);
        Check.due("no hypothesis yet", x.hypothesis(0, false, 0, 0), WRONG);
        x.unfold(0, 1);
        x.unfold(0, 0);
        x.unfold(1, 0);
        x.same();
        x.unfold(0, 1);
        x.unfold(1, 0);
        x.same();
        goal(x, 0, "add (add (S v3) v1) v2 = add (S v3) (add v1 v2)");
        hypothesis(x, 0, "add (add v3 f1) f2 = add v3 (add f1 f2)");
        Check.due("v3 is not S v3", x.hypothesis(0, false, 0, 0), WRONG);
        x.unfold(0, 1);
        x.unfold(0, 0);
        Check.due("hypothesis 1", x.hypothesis(1, false, 0, 1), WRONG);
        Check.due("hypothesis -1", x.hypothesis(-1, false, 0, 1), WRONG);
        Check.due("at another place", x.hypothesis(0, false, 0, 11), WRONG);
        Check.due("the wrong way", x.hypothesis(0, true, 0, 1), WRONG);
        Check.due("hypothesis 0", x.hypothesis(0, false, 0, 1), 1);
        goal(x, 0, "S (add v3 (add v1 v2)) = add (S v3) (add v1 v2)");
        Check.due("hypothesis 0 back", x.hypothesis(0, true, 0, 1), 1);
        goal(x, 0, "S (add (add v3 v1) v2) = add (S v3) (add v1 v2)");
        hypothesis(x, 0, "add (add v3 f1) f2 = add v3 (add f1 f2)");
    }

    private static void sureHypotheses() {
        for (int full = 0; full <= 1; full++) {
            Counted y = stepOf(full == 1);
            Check.due("on a sure variable", y.hypothesis(0, false, 0, 1), 1);
            y = stepOf(full == 1);
            Check.due("v1 becomes a call", y.law(0, true, 0, 12), 1);
            Check.due("on a call", y.hypothesis(0, false, 0, 1), full == 1 ? 1 : WRONG);
        }
    }

    /** The step of a law whose hypothesis can be used at once; law 0 is x + 0 = x, proved FULL. */
    private static Counted stepOf(boolean full) {
        Counted x = Check.with(Check.NUMBERS + "law a:add x Z=x;fun s:N>N>N;rule s Z y=Z;rule s (S x) y=S (s x y);"
                + "law b:s x y=s x y;");
        x.begin(0, true);
        x.search(50);
        x.begin(1, full);
        x.induction(0);
        for (int goals = full ? 2 : 1; goals >= 1; goals--) {
            x.same();
        }
        x.unfold(0, 0);
        Check.due("one goal", x.count(5), 1);
        goal(x, 0, "S (s v2 v1) = s (S v2) v1");
        hypothesis(x, 0, "s v2 f1 = s v2 f1");
        return x;
    }

    private static void casesOfVariables() {
        Counted x = Check.with(LAWS);
        x.begin(2, true);
        Check.due("FULL", x.cases(0, 1), 3);
        goal(x, 0, "add _ v1 = add v1 _");
        goal(x, 1, "add Z v1 = add v1 Z");
        goal(x, 2, "add (S v2) v1 = add v1 (S v2)");
        Check.due("of _", x.cases(0, 1), WRONG);
        x.begin(2, false);
        Check.due("FINITE", x.cases(1, 1), 2);
        goal(x, 1, "add v0 (S v2) = add (S v2) v0");
        Check.due("of a constructor", x.cases(0, 2), WRONG);
        x.begin(3, false);
        x.cases(0, 11);
        x.search(1);
        x.unfold(0, 1);
        x.unfold(1, 0);
        x.same();
        goal(x, 0, "add (add (S v3) v1) v2 = add (S v3) (add v1 v2)");
        Check.due("no new hypotheses", x.count(7), 0);
        Check.due("new variables are not fixed", x.induction(3), 2);
        fixedVariables();
    }

    private static void fixedVariables() {
        Counted x = Check.with("data N=Z|S N;fun w:N>N>N;law a:w x y=w x y;");
        x.begin(0, false);
        x.induction(0);
        x.same();
        hypothesis(x, 0, "w v2 f1 = w v2 f1");
        Check.due("of a fixed variable", x.cases(0, 11), 2);
        goal(x, 0, "w (S Z) v1 = w (S Z) v1");
        hypothesis(x, 0, "w Z f1 = w Z f1");
        x.same();
        goal(x, 0, "w (S (S v3)) v1 = w (S (S v3)) v1");
        hypothesis(x, 0, "w (S v3) f1 = w (S v3) f1");
        Check.due("it is fixed, too", x.induction(3), WRONG);
        Check.due("of one that is not", x.cases(0, 2), 2);
        x.same();
        hypothesis(x, 0, "w (S v3) f1 = w (S v3) f1");
        Check.due("what comes of it is not, either", x.induction(4), 2);
        x.same();
        Check.due("two hypotheses", x.count(7), 2);
        hypothesis(x, 1, "w (S (S v3)) (S v5) = w (S (S v3)) (S v5)");
    }

    private static void casesOfCalls() {
        Counted x = Check.with(CHOICE);
        x.begin(0, false);
        Check.due("of a call", x.cases(0, 1), 3);
        goal(x, 0, "if _ v0 v1 = if _ v1 v0");
        goal(x, 1, "if T v0 v1 = if T v1 v0");
        goal(x, 2, "if F v0 v1 = if F v1 v0");
        Check.due("one hypothesis", x.count(7), 1);
        hypothesis(x, 0, "ev v0 = _");
        Check.due("its variables are fixed", x.induction(0), WRONG);
        Check.due("cases of a fixed one, which is sure", x.cases(0, 2), 4);
        hypothesis(x, 0, "ev Z = _");
        goal(x, 1, "if _ (S v2) v1 = if _ v1 (S v2)");
        Check.due("another variable is not fixed", x.induction(1), 5);
        callsOfNumbers();
    }

    private static void callsOfNumbers() {
        Counted x = Check.with(Check.NUMBERS + "law a:add (add x y) (add x y)=add x y;law b:add x y=_;"
                + "law c:add x y=add x y;");
        x.begin(0, false);
        Check.due("of a call of numbers", x.cases(1, 0), 3);
        goal(x, 0, "add _ _ = _");
        goal(x, 1, "add Z Z = Z");
        goal(x, 2, "add (S v2) (S v2) = S v2");
        x.search(2);
        x.unfold(0, 0);
        x.same();
        x.unfold(0, 0);
        x.same();
        hypothesis(x, 0, "add v0 v1 = S v2");
        Check.due("the new variable is fixed", x.induction(2), WRONG);
        Check.due("and not sure", x.cases(0, 11), 3);
        hypothesis(x, 0, "add v0 v1 = S _");
        goal(x, 0, "add (S _) (S _) = S _");
        x.begin(2, true);
        Check.due("of the whole side", x.cases(1, 0), 3);
        goal(x, 0, "_ = _");
        x.same();
        goal(x, 0, "Z = Z");
        Check.due("back, without free variables", x.hypothesis(0, true, 1, 0), 2);
        goal(x, 0, "Z = add v0 v1");
        Check.due("and not back", x.hypothesis(0, false, 1, 0), 2);
        goal(x, 0, "Z = Z");
    }

    /** What cases of a call fix is fixed from then on: in the goals beside those that come of them, too. */
    private static void fixedFromThenOn() {
        Counted x = Check.with("data N=Z|S N;data P=P N N;fun w:N>N;law a:P (w x) (w x)=P (w x) (w x);");
        x.begin(0, false);
        Check.due("parts", x.parts(), 2);
        Check.due("cases of the first", x.cases(0, 0), 4);
        for (int goals = 3; goals >= 1; goals--) {
            Check.due("same", x.same(), goals);
        }
        Check.due("no induction over it in the second one", x.induction(0), WRONG);
        Check.due("but its cases", x.cases(0, 1), 2);
    }

    private static void sameAndParts() {
        Counted x = Check.with("data B=T|F;data P=P B B B;data N=Z|S N;fun f:N>N;law a:P x y z=P u y x;"
                + "law b:Z=Z;law c:f x=f x;law d:Z=S Z;law e:S x=x;law f:S _=S _;law g:f x=S x;law h:S x=_;");
        x.begin(0, true);
        Check.due("not the same", x.same(), WRONG);
        Check.due("parts", x.parts(), 3);
        goal(x, 0, "v0 = v3");
        goal(x, 1, "v1 = v1");
        goal(x, 2, "v2 = v0");
        Check.due("two variables are not the same", x.same(), WRONG);
        Check.due("and have no parts", x.parts(), WRONG);
        x.begin(1, true);
        Check.due("parts of one without arguments", x.parts(), 0);
        Check.due("proved", x.about(1, 0), 2);
        Check.due("it is done", x.parts(), STATE);
        Check.due("it is done: same", x.same(), STATE);
        Check.due("it is done: show", x.show(0, 0), STATE);
        Check.due("it is done: rows", x.count(6), 1);
        x.begin(2, false);
        Check.due("one call has no parts", x.parts(), WRONG);
        Check.due("but is the same", x.same(), 0);
        Check.due("proved FINITE", x.about(2, 0), 1);
        for (int l : new int[] {3, 4, 6, 7}) {
            x.begin(l, true);
            Check.due("no parts of law " + l, x.parts(), WRONG);
            Check.due("not the same of law " + l, x.same(), WRONG);
        }
        x.begin(5, true);
        Check.due("parts that are _", x.parts(), 1);
        Check.due("have no parts", x.parts(), WRONG);
        Check.due("are the same", x.same(), 0);
        partsRoom();
        partsKeep();
    }

    private static void partsKeep() {
        Counted x = Check.with("data N=Z|S N;data P=P N N;fun w:N>N>P;rule w x y=P x y;law a:w x y=P x y;");
        x.begin(0, false);
        x.induction(0);
        x.unfold(0, 0);
        x.same();
        x.unfold(0, 0);
        Check.due("parts of the step", x.parts(), 2);
        goal(x, 0, "S v2 = S v2");
        Check.due("the first has the hypothesis", x.count(7), 1);
        hypothesis(x, 0, "w v2 f1 = P v2 f1");
        Check.due("and its fixed variable", x.induction(2), WRONG);
        x.same();
        goal(x, 0, "v1 = v1");
        Check.due("the second has it, too", x.count(7), 1);
        hypothesis(x, 0, "w v2 f1 = P v2 f1");
        Check.due("and one that is not fixed", x.induction(1), 2);
    }

    private static void partsRoom() {
        String ten = "data K=A1|A2|A3|A4|A5|A6|A7|A8|A9|B1";
        String rest = ";data P=P K K K;law a:P x y z=P x y z;";
        Counted x = Check.with(ten + rest);
        x.begin(0, false);
        x.induction(0);
        Check.due("12 goals", x.parts(), 12);
        x = Check.with(ten + "|B2" + rest);
        x.begin(0, false);
        Check.due("11 goals", x.induction(0), 11);
        Check.due("13 goals", x.parts(), ROOM);
        Check.due("11 goals still", x.count(5), 11);
        x.same();
        Check.due("12 goals then", x.parts(), 12);
        goal(x, 0, "A2 = A2");
        goal(x, 1, "v1 = v1");
        goal(x, 3, "P A3 v1 v2 = P A3 v1 v2");
        goal(x, 11, "P B2 v1 v2 = P B2 v1 v2");
    }

    private static void refusals() {
        Counted x = Check.with(LAWS);
        int[] sides = {-1, 2, Integer.MIN_VALUE, Integer.MAX_VALUE};
        for (int side : sides) {
            Check.due("unfold at side " + side, x.unfold(side, 0), OUTSIDE);
            Check.due("cases at side " + side, x.cases(side, 0), OUTSIDE);
            Check.due("law at side " + side, x.law(0, false, side, 0), OUTSIDE);
            Check.due("hypothesis at side " + side, x.hypothesis(0, false, side, 0), OUTSIDE);
        }
        Check.due("unfold below 0", x.unfold(0, -1), OUTSIDE);
        Check.due("cases below 0", x.cases(0, -1), OUTSIDE);
        Check.due("law below 0", x.law(0, false, 0, -1), OUTSIDE);
        Check.due("hypothesis below 0", x.hypothesis(-1, false, 0, -1), OUTSIDE);
        Check.due("an unknown law below 0", x.law(4, false, 0, -1), UNKNOWN);
        Check.due("law -1", x.law(-1, false, 2, 0), UNKNOWN);
        Check.due("unfold without a proof", x.unfold(0, 0), STATE);
        Check.due("cases without a proof", x.cases(0, 0), STATE);
        Check.due("law without a proof", x.law(0, false, 0, 0), STATE);
        Check.due("hypothesis without a proof", x.hypothesis(-1, false, 0, 0), STATE);
        Check.due("induction without a proof", x.induction(-1), STATE);
        Check.due("same without a proof", x.same(), STATE);
        Check.due("parts without a proof", x.parts(), STATE);
    }

    private static void goal(Counted x, int k, String want) {
        Check.due("goal " + k, Check.goal(x, k), want);
    }

    private static void hypothesis(Counted x, int k, String want) {
        Check.due("hypothesis " + k, Check.hypothesis(x, k), want);
    }
}
