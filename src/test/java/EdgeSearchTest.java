/** The boundaries of promise 20, search, and of what "THE SEARCH" says. */
public final class EdgeSearchTest {
    private static final int ROOM = EquationProofs.ROOM;
    private static final String SLOW = "data N=Z|S N;fun a:N>N;rule a x=x;fun b:N>N;rule b x=a (a (a (a (a x))));"
            + "fun c:N>N;rule c x=b (b (b (b (b x))));fun d:N>N;rule d x=c (c (c (c (c x))));";

    public static void main(String[] args) {
        rowsAllowed();
        rows500();
        rowsJustEnough();
        proofAsItWas();
        fourSplits();
        splitsByHand();
        splitsOfOtherGoals();
        roomForNames();
        roomForLaws();
        roomForGoals();
        roomForVariables();
        roomForHypotheses();
        orderOfRows();
        hypothesesThenLaws();
        notTheLawItself();
        notBack();
        deepPlaces();
        firstWaiting();
        fixedOrNot();
        Check.finish();
    }

    private static void rowsAllowed() {
        Check.sentence("with so many rows at most (1 .. 500). OUTSIDE");
        for (int rows : new int[] {-1, 0, 501, 502, 1000, Integer.MIN_VALUE, Integer.MAX_VALUE}) {
            Counted x = Check.with("data N=Z;law a:Z=Z;");
            Check.due("search(" + rows + ") without a proof", x.search(rows), EquationProofs.OUTSIDE);
            x.begin(0, true);
            Check.due("search(" + rows + ")", x.search(rows), EquationProofs.OUTSIDE);
            Check.due("the goal is there", x.count(5), 1);
        }
        for (int rows : new int[] {1, 2, 499, 500}) {
            Counted x = Check.with("data N=Z;law a:Z=Z;");
            Check.due("search(" + rows + ") without a proof", x.search(rows), EquationProofs.STATE);
            x.begin(0, true);
            Check.due("search(" + rows + ")", x.search(rows), 1);
            Check.due("search(" + rows + ") when it is done", x.search(rows), EquationProofs.STATE);
        }
    }

    private static void rows500() {
        Check.sentence("how many it did, if no goal is left then: up to 500");
        // One row for a, 6 for b, 31 for c, 156 for d; then same.
        String[] sides = {"d (d (d (b (b (b (b (b x)))))))", "d (d (d (c x)))", "a (d (d (d (c x))))"};
        int[] rows = {499, 500, 501};
        for (int k = 0; k < sides.length; k++) {
            Counted x = Check.with(SLOW + "law l:" + sides[k] + "=x;");
            for (int most = 498; most <= 500; most++) {
                x.begin(0, true);
                Check.due("search(" + most + ") of " + rows[k], x.search(most), rows[k] <= most ? rows[k] : 0);
                Check.due("rows", x.count(6), rows[k] <= most ? rows[k] : 0);
            }
            x.begin(0, true);
            x.unfold(0, 0);
            Check.due("one row is done", x.search(500), rows[k] - 1);
            Check.due("rows", x.count(6), rows[k]);
        }
    }

    private static void rowsJustEnough() {
        Check.sentence("until no goal is left, or none can, or the rows are used up; else 0");
        for (int rows = 1; rows <= 9; rows++) {
            Counted x = Check.with(Check.NUMBERS + "law a:add x Z=x;");
            x.begin(0, true);
            Check.due("search(" + rows + ")", x.search(rows), rows >= 8 ? 8 : 0);
            Check.due("goals", x.count(5), rows >= 8 ? 0 : 1);
            Check.due("rows", x.count(6), rows >= 8 ? 8 : 0);
            Check.due("proved", x.about(0, 0), rows >= 8 ? 2 : 0);
        }
        Counted x = Check.with("data N=Z|S N;law a:Z=S Z;fun lp:N;rule lp=lp;law b:lp=Z;");
        x.begin(0, true);
        Check.due("no row can be done", x.search(500), 0);
        x.begin(1, true);
        Check.due("rows without an end", x.search(500), 0);
        Check.due("the goal is there", Check.goal(x, 0), "lp = Z");
    }

    private static void proofAsItWas() {
        Check.sentence("else 0, and the proof is as it was");
        Counted x = Check.with(Check.NUMBERS + "law a:add x Z=x;law c:add x y=add y x;");
        x.begin(1, true);
        x.induction(0);
        x.unfold(0, 0);
        String[] goals = {"_ = add v1 _", "add Z v1 = add v1 Z", "add (S v2) v1 = add v1 (S v2)"};
        Check.due("it cannot be proved for all values", x.search(500), 0);
        for (int k = 0; k < goals.length; k++) {
            Check.due("goal " + k, Check.goal(x, k), goals[k]);
        }
        Check.due("goals", x.count(5), 3);
        Check.due("rows", x.count(6), 2);
        Check.due("hypotheses", x.count(7), 0);
        Check.due("no variable has become FIXED", x.induction(1), 5);
        Check.due("and no number was given", Check.goal(x, 2), "_ = add (S v3) _");
        Check.due("again", x.search(500), 0);
        Check.due("the hypothesis is there", x.count(7), 0);
        x.unfold(1, 0);
        Check.due("rows go on", x.count(6), 4);
        Check.due("goal 0", Check.goal(x, 0), "_ = _");
        sureAsItWas();
    }

    /** A search gives SURE variables their numbers; when it fails, one comes to another, which is not SURE. */
    private static void sureAsItWas() {
        Counted x = Check.with("data N=Z|S N;fun k:N>N;rule k Z=Z;rule k (S x)=S (k x);fun m:N>N;rule m Z=Z;rule m (S x)=Z;"
                + "law a:m (k x)=k x;");
        x.begin(0, false);
        Check.due("a search with new variables", x.search(500), 0);
        Check.due("cases of a call", x.cases(0, 1), 3);
        for (int goals = 2; goals >= 1; goals--) {
            x.unfold(0, 0);
            Check.due("same", x.same(), goals);
        }
        Check.due("its new variable", Check.goal(x, 0), "m (S v1) = S v1");
        Check.due("is not SURE", x.cases(1, 1), 3);
        Check.due("so that it may be undefined", Check.goal(x, 0), "m (S _) = S _");
    }

    private static void fourSplits() {
        Check.sentence("if since the proof's beginning fewer than 4 INDUCTIONS and CASES led to this goal");
        // A function that wants so many arguments, one behind the other.
        String text = "data B=T|F;fun q:B>B>B>B>B;rule q T T T T=T;rule q w x y z=T;fun p:B>B;rule p T=T;rule p F=T;";
        String[] sides = {"q T T T x", "q T T x y", "q T x y z", "q x y z w", "q x y z (p T)", "q x y z (q w w w v)"};
        for (int k = 0; k < sides.length; k++) {
            Counted x = Check.with(text + "law a:" + sides[k] + "=T;");
            x.begin(0, false);
            Check.due("search of " + sides[k], x.search(500) > 0 ? 1 : 0, k == 5 ? 0 : 1);
        }
    }

    private static void splitsByHand() {
        Check.sentence("fewer than 4 INDUCTIONS and CASES led to this goal: those by hand count");
        String text = "data B=T;fun q:B>B>B>B>B;rule q T T T T=T;fun r:B>B>B;rule r T T=T;law a:q w x y z=T;"
                + "law b:r (q w x y z) u=T;law c:r (q w x y T) u=T;";
        Counted x = Check.with(text);
        x.begin(0, false);
        // Four splits, unfold, same.
        Check.due("four", x.search(500), 6);
        for (int hand = 1; hand <= 4; hand++) {
            x.begin(0, false);
            for (int v = 0; v < hand; v++) {
                Check.due("by hand", v % 2 == 0 ? x.induction(v) : x.cases(0, v + 1), 1);
            }
            Check.due("the rest", x.search(500), 6 - hand);
        }
        x = Check.with(text);
        x.begin(1, false);
        Check.due("five", x.search(500), 0);
        x.induction(4);
        Check.due("five, one by hand", x.search(500), 0);
        x.begin(1, false);
        for (int v = 0; v < 5; v++) {
            Check.due("five by hand", x.induction(v), 1);
        }
        Check.due("no more is needed", x.search(500), 3);
        x = Check.with(text);
        x.begin(2, false);
        Check.due("four: unfold is none of them", x.search(500), 7);
        x.begin(2, false);
        Check.due("cases of a call are one", x.cases(0, 1), 2);
        Check.due("the first goal", Check.goal(x, 0), "r _ v3 = T");
        Check.due("it does not hold", x.search(500), 0);
    }

    private static void splitsOfOtherGoals() {
        Check.sentence("led to this goal: those of goals beside it do not count");
        Counted x = Check.with("data B=T;data P=P B B B;fun q:B>B>B>B>B;rule q T T T T=T;"
                + "law a:P (q w x y z) (q w x y z) (q z y x w)=P T T T;");
        x.begin(0, false);
        // Parts, and six rows for each of three goals.
        Check.due("twelve in all, four for each goal", x.search(500), 1 + 3 * 6);
        x.begin(0, false);
        x.induction(0);
        Check.due("one ahead of parts, three for each goal", x.search(500), 1 + 3 * 5);
    }

    private static void roomForNames() {
        Check.sentence("by the first of these that can be done (and has room): 60 names");
        // lo has no room when 60 names are there: then what is behind it is unfolded.
        Counted x = Check.with("data N=Z|S N;data P=P N N;fun lo:N;rule lo=S lo;fun a:N;rule a=Z;law l:P lo a=P lo Z;"
                + "law m:P lo Z=P lo a;law n:lo=Z;");
        // 57 rows for each lo, then a, then both sides are the same.
        x.begin(0, true);
        Check.due("lo, a, lo", x.search(500), 57 + 1 + 57 + 1);
        x.begin(1, true);
        Check.due("lo, lo, a", x.search(500), 57 + 57 + 1 + 1);
        x.begin(2, true);
        Check.due("then none can", x.search(500), 0);
    }

    private static void roomForLaws() {
        Check.sentence("the first one that can be used, at its first place (and has room)");
        String text = "data Q=U|E Q|C Q Q Q;data P=P Q Q;fun f:Q>Q>Q;rule f U y=U;rule f (E x) y=f x y;"
                + "rule f (C x y z) w=f x w;fun g:Q>Q>Q>Q;rule g U y z=U;rule g (E x) y z=g x y z;"
                + "rule g (C x y z) v w=g x v w;law a:f x y=g x y y;";
        // The law doubles what has so many names. 26: three times, same. 27: once, parts; once, same each. 28: at the
        // second place alone, same.
        int[] rows = {4, 6, 2};
        for (int names = 26; names <= 28; names++) {
            String much = Check.atom(names);
            Counted x = Check.with(text + "law b:P (f x " + much + ") (f x U)=P (f x " + much + ") (g x U U);");
            Check.due("names", x.about(1, 2), names + 6);
            x.begin(0, true);
            Check.due("the law is proved", x.search(50) > 0 ? 1 : 0, 1);
            x.begin(1, true);
            Check.due("search with " + names, x.search(500), rows[names - 26]);
        }
    }

    private static void roomForGoals() {
        Check.sentence("by the first of these that can be done (and has room): 12 goals");
        for (int many = 11; many <= 13; many++) {
            StringBuilder type = new StringBuilder("data K=A0");
            StringBuilder rules = new StringBuilder("rule f A0=A0;");
            for (int c = 1; c < many; c++) {
                char name = (char) ('a' + c);
                type.append("|A").append(name);
                rules.append("rule f A").append(name).append("=A0;");
            }
            Counted x = Check.with(type + ";fun f:K>K;" + rules + "law a:f x=A0;");
            x.begin(0, false);
            // The induction; unfold and same for each goal.
            Check.due(many + " goals", x.search(500), many <= 12 ? 1 + 2 * many : 0);
            x = Check.with(type + ";fun f:K>K;" + rules.append("rule f x=A0;") + "fun g:K>K>K;rule g A0 y=f y;"
                    + "law a:g A0 x=A0;");
            x.begin(0, false);
            Check.due(many + " goals behind unfold", x.search(500), many <= 12 ? 2 + 2 * many : 0);
        }
    }

    private static void roomForVariables() {
        Check.sentence("by the first of these that can be done (and has room): 60 variables");
        StringBuilder text = new StringBuilder("data Q=C1 Q Q Q");
        for (int c = 2; c <= 9; c++) {
            text.append("|C").append(c).append(" Q Q Q");
        }
        text.append(";data R=R1|R2 R;data K=K R R;data P=P R K K;fun f:R>R;rule f R1=R1;rule f (R2 x)=R1;fun h:Q>R>R;"
                + "rule h (C9 x y z) r=f r;rule h q r=R1;fun g:Q>R>R;rule g (C9 x y z) r=h x r;rule g q r=R1;");
        String[] spare = {"(K R1 R1) (K R1 R1)", "(K s R1) (K R1 R1)", "(K s t) (K R1 R1)", "(K s t) (K u R1)",
            "(K s t) (K u v)"};
        for (int more = 0; more < spare.length; more++) {
            Counted x = Check.with(text + "law a:P (g x r) " + spare[more] + "=P R1 " + spare[more] + ";");
            Check.due("variables", x.about(0, 1), 2 + more);
            x.begin(0, false);
            // Parts; twice nine goals by 27 variables, of which eight are unfold and same; two goals by one more.
            int rows = 1 + 2 * (1 + 8 * 2 + 1) + 1 + 2 * 2 + 2;
            Check.due((57 + more) + " variables", x.search(500), 57 + more <= 60 ? rows : 0);
        }
    }

    private static void roomForHypotheses() {
        Check.sentence("by the first of these that can be done (and has room): 8 hypotheses");
        String base = "data Q=C Q Q Q;data E=E E E;data D=D D;data R=R;";
        String[] types = {"Q>Q>D>R", "Q>Q>E>R", "Q>Q>Q>R"};
        String[] last = {"(D x)", "(E x x2)", "(C x x2 x3)"};
        for (int k = 0; k < types.length; k++) {
            Counted x = Check.with(base + "fun f:" + types[k] + ";rule f (C x1 x4 x5) (C y1 y2 y3) " + last[k]
                    + "=R;law a:f x y z=R;");
            x.begin(0, false);
            // Three inductions, unfold, same.
            Check.due((7 + k) + " hypotheses", x.search(500), k <= 1 ? 5 : 0);
            x.begin(0, false);
            x.induction(0);
            x.induction(1);
            Check.due("the third one by hand", x.induction(2), k <= 1 ? 1 : ROOM);
        }
    }

    private static void orderOfRows() {
        Check.sentence("THE SEARCH: SAME; UNFOLD; hypotheses; laws; PARTS; then INDUCTION or CASES");
        Counted x = Check.with(SLOW + "data B=T|F;fun lp:N;rule lp=lp;law l:lp=lp;law m:d x=x;law n:d (d x)=x;"
                + "law o:S (a Z)=S Z;fun q:N>B;rule q Z=T;rule q (S x)=q x;data P=P B N;law p:P (q x) y=P (q x) (a y);");
        x.begin(0, true);
        Check.due("SAME ahead of UNFOLD", x.search(500), 1);
        x.begin(1, true);
        Check.due("a law", x.search(500), 157);
        x.begin(2, true);
        Check.due("UNFOLD ahead of the law", x.search(500), 313);
        x.begin(3, true);
        Check.due("UNFOLD ahead of PARTS", x.search(500), 2);
        x.begin(4, false);
        Check.due("UNFOLD and SAME ahead of PARTS and INDUCTION", x.search(500), 2);
        x = Check.with("data N=Z;fun lp:N;rule lp=lp;fun a:N;rule a=lp;law a:a=lp;law b:lp=a;");
        x.begin(0, true);
        Check.due("side 0 first: then both are the same", x.search(500), 2);
        x.begin(1, true);
        Check.due("side 0 first: it has no end", x.search(500), 0);
        x = Check.with("data B=T|F;data P=P B B;fun q:B>B;rule q T=T;rule q F=T;law a:P (q x) (q x)=P T T;");
        x.begin(0, false);
        // Parts, then twice: induction, twice unfold and same. Without parts first: 1 + 2 * (2 + 1).
        Check.due("PARTS ahead of INDUCTION", x.search(500), 1 + 2 * 5);
    }

    private static final String TWO = Check.NUMBERS + "fun id:N>N;rule id Z=Z;rule id (S x)=S (id x);";

    private static void hypothesesThenLaws() {
        Check.sentence("of the hypotheses, in order, then of the laws that are PROVED, in order");
        Counted x = Check.with(TWO + "law a:add x Z=id x;law b:add x Z=x;law c:add (add x y) Z=add x y;");
        x.begin(0, true);
        Check.due("law a", x.search(500) > 0 ? 1 : 0, 1);
        x.begin(1, true);
        // Law a is used at once: id x is x by induction.
        Check.due("law b by law a", x.search(500), 9);
        x.begin(2, false);
        // Law a is the first one: behind it id (add x y) is not add x y at once.
        Check.due("law c by law a, which is first", x.search(500) > 2 ? 1 : 0, 1);
        x = Check.with(TWO + "law b:add x Z=x;law a:add x Z=id x;law c:add (add x y) Z=add x y;");
        for (int law = 0; law <= 1; law++) {
            x.begin(law, true);
            Check.due("law " + law, x.search(500) > 0 ? 1 : 0, 1);
        }
        x.begin(2, true);
        Check.due("law c by law b, which is first", x.search(500), 2);
        x = Check.with(TWO + "law a:add x Z=x;law b:add x Z=id x;");
        x.begin(1, true);
        // Induction; _ and Z: two unfold, same; S: two unfold, the hypothesis, same.
        Check.due("law c", x.search(500), 11);
        x = Check.with(TWO + "law a:id x=add x Z;law b:id x=x;");
        x.begin(0, false);
        Check.due("law a of the last", x.search(500) > 0 ? 1 : 0, 1);
        x.begin(1, false);
        x.induction(0);
        x.unfold(0, 0);
        x.same();
        x.unfold(0, 0);
        Check.due("the step", Check.goal(x, 0), "S (id v1) = S v1");
        // The hypothesis, then same; by law a first it would be add v1 Z, and more rows.
        Check.due("the hypothesis is ahead of law a", x.search(500), 2);
    }

    private static void notTheLawItself() {
        Check.sentence("of the laws that are PROVED (but the one that is to be proved)");
        Counted x = Check.with(Check.NUMBERS + "law a:add x Z=x;law b:add x Z=x;");
        for (int turn = 0; turn < 2; turn++) {
            x.begin(0, true);
            Check.due("not by itself", x.search(500), 8);
        }
        x.begin(1, true);
        Check.due("by the other one", x.search(500), 2);
        x.begin(0, true);
        Check.due("by the other one, too", x.search(500), 2);
        Check.sentence("laws that are PROVED: FULL, or the proof is FINITE");
        x = Check.with(Check.NUMBERS + "law a:add x Z=x;law b:add x Z=x;");
        x.begin(0, false);
        Check.due("FINITE", x.search(500), 6);
        x.begin(1, true);
        Check.due("a FULL proof does not use it", x.search(500), 8);
        x.begin(1, false);
        Check.due("a FINITE one does", x.search(500), 2);
    }

    private static void notBack() {
        Check.sentence("hypotheses and laws, not back");
        Counted x = Check.with("data N=Z|S N;data B=T;fun f:N>N;rule f Z=Z;rule f (S x)=S (f x);fun g:N>N;rule g Z=Z;"
                + "rule g (S x)=S (g x);fun h:N>B;rule h Z=T;rule h (S x)=T;law a:f x=g x;law b:h (f x)=T;law c:h (g x)=T;");
        x.begin(1, false);
        Check.due("law b", x.search(500), 7);
        x.begin(0, false);
        Check.due("law a", x.search(500) > 0 ? 1 : 0, 1);
        x.begin(2, false);
        // By law a back, and law b, it would have three rows.
        Check.due("law c", x.search(500), 7);
        x.begin(2, false);
        Check.due("by hand", x.law(0, true, 0, 1), 1);
        Check.due("law b", x.law(1, false, 0, 0), 1);
        Check.due("same", x.same(), 0);
    }

    private static void deepPlaces() {
        Check.sentence("THE SEARCH goes to places that are too deep for a number, too");
        for (int deep = 9; deep <= 13; deep++) {
            int inner = Math.min(deep, 10);
            String side = Check.repeat("S (", inner - 1) + "S x" + Check.repeat(")", inner - 1);
            String rest = Check.repeat("S (", deep - inner);
            Counted x = Check.with(Check.NUMBERS + "fun g:N>N;rule g x=" + side + ";law a:" + rest + "g (add Z x)"
                    + Check.repeat(")", deep - inner) + "=" + rest + "g x" + Check.repeat(")", deep - inner) + ";"
                    + "law b:" + rest + "g (add x Z)" + Check.repeat(")", deep - inner) + "=" + rest + "g x"
                    + Check.repeat(")", deep - inner) + ";law c:add x Z=x;");
            x.begin(0, true);
            Check.due("unfold " + deep + " deep", x.search(500), 4);
            x.begin(2, true);
            x.search(500);
            x.begin(1, true);
            Check.due("a law " + deep + " deep", x.search(500), 4);
            x.begin(1, true);
            x.unfold(0, Integer.parseInt("0" + Check.repeat("1", deep - inner)));
            x.unfold(1, Integer.parseInt("0" + Check.repeat("1", deep - inner)));
            int place = deep <= 10 ? Integer.parseInt(Check.repeat("1", deep)) : 1111111111;
            Check.due("by hand", x.law(2, false, 0, place), deep <= 10 ? 1 : EquationProofs.WRONG);
        }
    }

    private static void firstWaiting() {
        Check.sentence("the first call that WAITS for a variable (places as before)");
        String text = "data N=Z|S N;data B=T|F;data K=A1|A2|A3;fun c:N>N>N;rule c Z Z=Z;fun f:B>N;rule f T=Z;"
                + "rule f F=Z;fun g:K>N;rule g A1=Z;rule g A2=Z;rule g A3=Z;";
        Counted x = Check.with(text + "law a:c (f x) (g y)=Z;law b:c (g y) (f x)=Z;law d:c Z (f x)=c (g y) Z;"
                + "law e:c (c (f x) Z) (g y)=Z;");
        int[] rows = {1 + 2 * (2 + 3 * 3), 1 + 3 * (2 + 2 * 3), 1 + 2 * (3 + 3 * 3), 1 + 2 * (3 + 3 * 3)};
        waitsForNothing();
        for (int law = 0; law < rows.length; law++) {
            x.begin(law, false);
            Check.due("law " + law, x.search(500), rows[law]);
            x.begin(law, false);
            Check.due("one row too few", x.search(rows[law] - 1), 0);
        }
    }

    /** The first variable of the law is wanted by no call: the first call wants y, the other one z. */
    private static void waitsForNothing() {
        Counted x = Check.with("data B=T|F;data K=A1|A2|A3;data P=P K B;fun f:B>B;rule f T=T;rule f F=T;fun h:B>K>P;"
                + "rule h T x=P x T;rule h F x=P x T;law a:P x (f y)=h z x;");
        x.begin(0, false);
        // y; twice: unfold, z; twice: unfold, same.
        Check.due("a variable that no call wants", x.search(500), 1 + 2 * (1 + 1 + 2 * 2));
    }

    private static void fixedOrNot() {
        Check.sentence("INDUCTION over that, if it is not FIXED, else its CASES");
        // The step needs the hypothesis of an induction.
        Counted x = Check.with(Check.NUMBERS + "data P=P N N;fun w:N>N;law a:add x Z=x;"
                + "law b:P (w x) (add x Z)=P (w x) x;");
        x.begin(0, false);
        Check.due("not FIXED", x.search(500), 6);
        x.begin(0, false);
        Check.due("by cases", x.cases(0, 1), 2);
        Check.due("what comes of them is not FIXED, either", x.search(500) > 0 ? 1 : 0, 1);
        x = Check.with(Check.NUMBERS + "data P=P N N;fun w:N>N;rule w (S (S (S (S (S x)))))=Z;law a:add x Z=x;"
                + "law b:P (w x) (add x Z)=P (w x) x;");
        x.begin(1, false);
        Check.due("cases of a call fix its variable", x.cases(0, 1), 3);
        Check.due("cases alone have no end", x.search(500), 0);
        Check.due("nor has induction by hand", x.induction(0), EquationProofs.WRONG);
    }
}
