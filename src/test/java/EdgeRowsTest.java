/** Places, what a row may be done with, and when it may not: "3 PROOFS" and promises 12 to 19. */
public final class EdgeRowsTest {
    private static final int UNKNOWN = EquationProofs.UNKNOWN;
    private static final int OUTSIDE = EquationProofs.OUTSIDE;
    private static final int STATE = EquationProofs.STATE;
    private static final int WRONG = EquationProofs.WRONG;
    private static final int[] FAR = {Integer.MIN_VALUE, Integer.MAX_VALUE};

    private static final String LAWS = Check.NUMBERS + "law a:add x Z=x;law b:add x (S y)=S (add x y);"
            + "law c:add x y=add y x;law d:add (add x y) z=add x (add y z);";

    public static void main(String[] args) {
        argumentPlaces();
        deepestPlaces();
        sidesAndPlaces();
        lawNumbers();
        hypothesisNumbers();
        variableNumbers();
        statesOfRows();
        unfolding();
        provedLaws();
        freeVariables();
        undefinedOfAnyType();
        noPlace();
        sureVariables();
        fixedVariables();
        fixedFromThenOn();
        notFixedBeside();
        fixedInInduction();
        notFixedByRefusal();
        fixedButFree();
        casesOfNothing();
        sameSides();
        oneConstructor();
        proofIsDone();
        Check.finish();
    }

    private static void argumentPlaces() {
        Check.sentence("A PLACE: 0 the whole side; else 1 .. 4 an argument, then one of its arguments");
        String[] sides = {"f0", "f1 f0", "f2 f0 f0", "f3 f0 f0 f0", "f4 f0 f0 f0 f0"};
        String base = "data N=Z;fun f0:N;fun f1:N>N;fun f2:N>N>N;fun f3:N>N>N>N;fun f4:N>N>N>N>N;";
        for (int arity = 0; arity <= 4; arity++) {
            for (int place = 0; place <= 20; place++) {
                Counted x = Check.with(base + "law a:" + sides[arity] + "=Z;law b:f1 (" + sides[arity] + ")=Z;");
                x.begin(0, true);
                Check.due("unfold at " + place + " of " + sides[arity], x.unfold(0, place), place <= arity ? 1 : WRONG);
                x.begin(0, true);
                Check.due("cases at " + place + " of " + sides[arity], x.cases(0, place), place <= arity ? 2 : WRONG);
                x.begin(1, true);
                boolean there = place <= 1 || place >= 11 && place <= 10 + arity;
                Check.due("unfold at " + place + " of f1", x.unfold(0, place), there ? 1 : WRONG);
            }
        }
        Counted x = Check.with(base + "law a:f4 f0 f0 (f2 f0 (f3 f0 f0 f0)) f0=Z;");
        x.begin(0, true);
        for (int none : new int[] {5, 11, 30, 33, 35, 39, 40, 100, 300, 301, 320, 324, 329, 3021, 3201, 3231, 9, 99}) {
            Check.due("unfold at " + none, x.unfold(0, none), WRONG);
        }
        Check.due("unfold at 323", x.unfold(0, 323), 1);
        Check.due("the third of the second of the third", Check.goal(x, 0), "f4 f0 f0 (f2 f0 (f3 f0 f0 _)) f0 = Z");
        Check.due("unfold at 31", x.unfold(0, 31), 1);
        Check.due("the first of the third", Check.goal(x, 0), "f4 f0 f0 (f2 _ (f3 f0 f0 _)) f0 = Z");
        Check.due("unfold at 32", x.unfold(0, 32), 1);
        Check.due("unfold at 4", x.unfold(0, 4), 1);
        Check.due("the fourth", Check.goal(x, 0), "f4 f0 f0 (f2 _ _) _ = Z");
    }

    private static void deepestPlaces() {
        Check.sentence("A PLACE is a number, in decimals");
        int place = 0;
        for (int deep = 0; deep <= 10; deep++) {
            // So many S round k; the deepest place that has a number has ten of them.
            String side = deep == 0 ? "k" : Check.repeat("S (", deep - 1) + "S k" + Check.repeat(")", deep - 1);
            Counted x = Check.with("data N=Z|S N;fun k:N;rule k=S k;law a:" + side + "=Z;law b:Z=" + side + ";");
            x.begin(0, true);
            Check.due("S at " + place / 10, deep > 0 ? x.unfold(0, place / 10) : WRONG, WRONG);
            Check.due("behind k", deep < 10 ? x.unfold(0, place * 10 + 1) : WRONG, WRONG);
            Check.due("k at " + place, x.unfold(0, place), 1);
            x.begin(1, true);
            Check.due("k at the right, at " + place, x.unfold(1, place), 1);
            place = place * 10 + 1;
        }
        String side = Check.repeat("S (", 9) + "P2 (P2 k k) k" + Check.repeat(")", 9);
        Counted x = Check.with("data N=Z|S N|P2 N N;fun k:N;law a:" + side + "=P2 " + "Z k;");
        x.begin(0, true);
        Check.due("ten digits", x.unfold(0, 1111111112), 1);
        for (int none : new int[] {1111111113, 1111111122, 2111111111, 2147483647, 1111111101, 1000000000}) {
            Check.due("none at " + none, x.unfold(0, none), WRONG);
        }
        x = Check.with("data N=Z|S N|P2 N N;fun k:N;law a:P2 Z (" + Check.repeat("S (", 8) + "S k" + Check.repeat(")", 8)
                + ")=Z;");
        x.begin(0, true);
        Check.due("2 ahead of nine digits", x.unfold(0, 2111111111), 1);
    }

    private static void sidesAndPlaces() {
        Check.sentence("OUTSIDE (side 0, 1; the place is below 0)");
        for (int side = -2; side <= 3; side++) {
            for (int place = -2; place <= 1; place++) {
                Counted x = Check.with(Check.NUMBERS + "law a:add Z (add Z x)=add Z (add Z x);law b:add Z x=x;");
                x.begin(1, true);
                x.unfold(0, 0);
                x.same();
                x.begin(0, true);
                x.cases(0, 0);
                boolean outside = side < 0 || side > 1 || place < 0;
                String at = "(" + side + ", " + place + ")";
                Check.due("hypothesis" + at, x.hypothesis(0, false, side, place), outside ? OUTSIDE : WRONG);
                Check.due("cases" + at, x.cases(side, place), outside ? OUTSIDE : WRONG);
                x.begin(0, true);
                Check.due("unfold" + at, x.unfold(side, place), outside ? OUTSIDE : place == 0 ? 1 : WRONG);
                x.begin(0, true);
                Check.due("law" + at, x.law(1, false, side, place), outside ? OUTSIDE : place == 0 ? 1 : WRONG);
            }
        }
        Counted x = Check.with(LAWS);
        x.begin(0, true);
        for (int far : FAR) {
            Check.due("unfold at side " + far, x.unfold(far, 0), OUTSIDE);
            Check.due("law at side " + far, x.law(0, false, far, 0), OUTSIDE);
            Check.due("hypothesis at side " + far, x.hypothesis(0, false, far, 0), OUTSIDE);
            Check.due("cases at side " + far, x.cases(far, 0), OUTSIDE);
            int want = far < 0 ? OUTSIDE : WRONG;
            Check.due("unfold at " + far, x.unfold(0, far), want);
            Check.due("law at " + far, x.law(0, false, 0, far), want);
            Check.due("hypothesis at " + far, x.hypothesis(0, false, 0, far), want);
            Check.due("cases at " + far, x.cases(0, far), want);
        }
    }

    private static void lawNumbers() {
        Check.sentence("begin, law: UNKNOWN (the law)");
        Counted x = Check.with(LAWS);
        for (int law : new int[] {-1, 4, 15, 16, Integer.MIN_VALUE, Integer.MAX_VALUE}) {
            Check.due("begin(" + law + ")", x.begin(law, true), UNKNOWN);
            Check.due("law(" + law + ") without a proof", x.law(law, false, 0, 0), UNKNOWN);
            Check.due("law(" + law + ") at side 2", x.law(law, false, 2, 0), UNKNOWN);
            Check.due("law(" + law + ") below 0", x.law(law, true, 0, -1), UNKNOWN);
        }
        Check.due("begin(3)", x.begin(3, true), 1);
        Check.due("law(4) in a proof", x.law(4, false, 0, 0), UNKNOWN);
        Check.due("law(3), which is not proved", x.law(3, false, 0, 0), WRONG);
        Check.due("begin(0)", x.begin(0, true), 1);
        Check.due("law(0), which is not proved", x.law(0, false, 0, 0), WRONG);
    }

    private static void hypothesisNumbers() {
        Check.sentence("HYPOTHESIS k of the first goal (from 0): WRONG (there is none such, too)");
        String side = "w x x x x";
        Counted x = Check.with("data N=S N N N;fun w:N>N>N>N>N;law a:" + side + "=" + side + ";");
        x.begin(0, false);
        Check.due("none yet", x.hypothesis(0, false, 0, 0), WRONG);
        Check.due("induction", x.induction(0), 1);
        Check.due("three", x.count(7), 3);
        for (int k : new int[] {-1, 3, 4, 8, 9, Integer.MIN_VALUE, Integer.MAX_VALUE}) {
            Check.due("hypothesis(" + k + ")", x.hypothesis(k, false, 0, 0), WRONG);
            Check.due("hypothesis(" + k + ") at side 2", x.hypothesis(k, false, 2, 0), OUTSIDE);
            Check.due("hypothesis(" + k + ") below 0", x.hypothesis(k, false, 0, -1), OUTSIDE);
            Check.due("showHypothesis(" + k + ")", x.showHypothesis(k, 0), OUTSIDE);
        }
        String[] want = {"w v1 v1 v1 v1", "w v2 v2 v2 v2", "w v3 v3 v3 v3"};
        for (int k = 0; k < 3; k++) {
            Check.due("hypothesis " + k, Check.hypothesis(x, k), want[k] + " = " + want[k]);
        }
        usedHypotheses();
        freeInFull();
        bareSide();
    }

    private static void freeInFull() {
        Check.sentence("HYPOTHESES' variables are FREE: in a FULL proof anything of their type may stand there");
        for (String term : new String[] {"x", "_", "k", "S k", "add x Z", "Z"}) {
            Counted x = Check.with(Check.NUMBERS + "fun k:N;fun p:N>N>N;rule p x Z=Z;rule p x (S y)=S (p x y);"
                    + "law a:p x y=y;law b:add Z (" + term + ")=" + term + ";");
            x.begin(1, true);
            x.search(9);
            x.begin(0, true);
            x.induction(1);
            x.unfold(0, 0);
            x.same();
            x.unfold(0, 0);
            x.same();
            x.unfold(0, 0);
            Check.due("the step", Check.goal(x, 0), "S (p v0 v2) = S v2");
            Check.due("its hypothesis", Check.hypothesis(x, 0), "p f0 v2 = v2");
            Check.due("on v0", x.hypothesis(0, false, 0, 1), 1);
        }
    }

    private static void bareSide() {
        Check.sentence("FREE: anything of their type may stand there, on a side that is a variable alone, too");
        Counted x = Check.with("data N=Z|S N;data B=T|F;fun p:N>B>B;rule p Z y=y;rule p (S x) y=p x y;fun q:N>N;rule q x=x;"
                + "law a:p x y=y;law b:q x=x;fun w:N>B>N>B;law c:w x (p x y) (q x)=w x (p x y) (q x);");
        x.begin(1, true);
        x.search(9);
        x.begin(0, false);
        x.induction(0);
        x.unfold(0, 0);
        x.same();
        Check.due("the step", Check.goal(x, 0), "p (S v2) v1 = v1");
        Check.due("its hypothesis", Check.hypothesis(x, 0), "p v2 f1 = f1");
        // A law has been looked at between.
        Check.due("law b on another type", x.law(1, true, 0, 0), WRONG);
        Check.due("back on a call of another proof's type: not SURE", x.hypothesis(0, true, 0, 0), WRONG);
        Check.due("law b, back on a number", x.law(1, true, 0, 1), 1);
        Check.due("the hypothesis, back on a number", x.hypothesis(0, true, 0, 11), WRONG);
        Check.due("the hypothesis, back on a number inside", x.hypothesis(0, true, 0, 111), WRONG);
        Check.due("the hypothesis, back on its type", x.hypothesis(0, true, 1, 0), 1);
        Check.due("then", Check.goal(x, 0), "p (q (S v2)) v1 = p v2 v1");
        Check.due("and once more", x.hypothesis(0, true, 1, 2), 1);
        Check.due("then", Check.goal(x, 0), "p (q (S v2)) v1 = p v2 (p v2 v1)");
    }

    private static void usedHypotheses() {
        Counted x = Check.with("data N=Z|S N N;fun m:N>N;rule m Z=Z;rule m (S x y)=S (m y) (m x);law a:m (m x)=x;");
        x.begin(0, false);
        x.induction(0);
        x.unfold(0, 1);
        x.unfold(0, 0);
        x.same();
        x.unfold(0, 1);
        x.unfold(0, 0);
        Check.due("the step", Check.goal(x, 0), "S (m (m v1)) (m (m v2)) = S v1 v2");
        Check.due("hypothesis 0 is not at 2", x.hypothesis(0, false, 0, 2), WRONG);
        Check.due("hypothesis 1 is not at 1", x.hypothesis(1, false, 0, 1), WRONG);
        Check.due("hypothesis 0", x.hypothesis(0, false, 0, 1), 1);
        Check.due("hypothesis 1", x.hypothesis(1, false, 0, 2), 1);
        Check.due("same", x.same(), 0);
    }

    private static void variableNumbers() {
        Check.sentence("INDUCTION over variable v: WRONG (it is none of the goal's two terms, too)");
        int[] none = {-1, 2, 3, 6, 59, 60, 63, 64, 65, 128, -64, Integer.MIN_VALUE, Integer.MAX_VALUE};
        Counted x = Check.with(LAWS + "law e:add x Z=add x y;");
        x.begin(2, true);
        for (int v : none) {
            Check.due("induction(" + v + ")", x.induction(v), WRONG);
        }
        Check.due("induction(1)", x.induction(1), 3);
        Check.due("it has gone", x.induction(1), WRONG);
        Check.due("of another goal", x.induction(2), WRONG);
        Check.due("the other one is there", x.induction(0), 5);
        x.begin(4, true);
        Check.due("of the right side alone", x.induction(1), 3);
        x.begin(0, true);
        Check.due("of the law, too", x.induction(0), 3);
        // v1 is of the hypothesis alone, when the goal has it no more.
        x = Check.with("data N=Z|S N;fun f:N>N>N;rule f x y=x;law a:f x y=f x y;");
        x.begin(0, false);
        x.induction(0);
        x.same();
        x.unfold(0, 0);
        x.unfold(1, 0);
        Check.due("the goal", Check.goal(x, 0), "S v2 = S v2");
        Check.due("the hypothesis", Check.hypothesis(x, 0), "f v2 f1 = f v2 f1");
        Check.due("a variable of the hypothesis alone", x.induction(1), WRONG);
    }

    private static void statesOfRows() {
        Check.sentence("Rows: STATE (no proof is under way; it is done)");
        Counted x = Check.with(LAWS + "law e:Z=Z;");
        noRow(x, "no proof");
        x.begin(4, true);
        Check.due("same", x.same(), 0);
        noRow(x, "it is done");
        x.begin(0, true);
        Check.due("under way", x.induction(0), 3);
        x.begin(9, true);
        Check.due("a begin that is refused leaves it", x.same(), WRONG);
        Check.read(x, "law f:Z=Z");
        Check.due("a text with a fault leaves it", x.same(), WRONG);
        Check.read(x, "law f:Z=Z;");
        noRow(x, "a text has ended it");
        x.begin(0, true);
        Check.read(x, "");
        noRow(x, "an empty text has ended it");
        x.begin(0, true);
        Check.work(x, "Z", 0);
        x.test(0, 1, true);
        Check.due("work and test leave it", x.induction(0), 3);
    }

    private static void noRow(Counted x, String why) {
        Check.due(why + ": unfold", x.unfold(0, 0), STATE);
        Check.due(why + ": unfold at no place", x.unfold(1, 99), STATE);
        Check.due(why + ": law", x.law(0, false, 0, 0), STATE);
        Check.due(why + ": hypothesis", x.hypothesis(0, false, 0, 0), STATE);
        Check.due(why + ": hypothesis of none", x.hypothesis(-1, false, 0, 0), STATE);
        Check.due(why + ": induction", x.induction(0), STATE);
        Check.due(why + ": induction of none", x.induction(-1), STATE);
        Check.due(why + ": cases", x.cases(0, 0), STATE);
        Check.due(why + ": same", x.same(), STATE);
        Check.due(why + ": parts", x.parts(), STATE);
        Check.due(why + ": search", x.search(1), STATE);
        Check.due(why + ": show", x.show(0, 0), STATE);
        Check.due(why + ": showHypothesis", x.showHypothesis(0, 0), STATE);
        Check.due(why + ": OUTSIDE is ahead of it", x.unfold(2, 0), OUTSIDE);
        Check.due(why + ": of search, too", x.search(0), OUTSIDE);
        Check.due(why + ": goals", x.count(5), 0);
        Check.due(why + ": hypotheses", x.count(7), 0);
    }

    private static void unfolding() {
        Check.sentence("UNFOLD: a call at a place becomes what its rule says, or _; it must not WAIT");
        Counted x = Check.with(Check.NUMBERS + "fun un:N>N;law a:add (un x) (S (add _ (add Z x)))=S _;");
        x.begin(0, true);
        Check.due("it waits for a call", x.unfold(0, 0), WRONG);
        Check.due("a constructor", x.unfold(0, 2), WRONG);
        Check.due("a variable", x.unfold(0, 11), WRONG);
        Check.due("_", x.unfold(0, 211), WRONG);
        Check.due("_ at the right", x.unfold(1, 1), WRONG);
        Check.due("a constructor, the whole", x.unfold(1, 0), WRONG);
        Check.due("what its rule says", x.unfold(0, 212), 1);
        Check.due("then", Check.goal(x, 0), "add (un v0) (S (add _ v0)) = S _");
        Check.due("its argument is undefined", x.unfold(0, 21), 1);
        Check.due("then", Check.goal(x, 0), "add (un v0) (S _) = S _");
        Check.due("no rule", x.unfold(0, 1), 1);
        Check.due("then", Check.goal(x, 0), "add _ (S _) = S _");
        Check.due("it waits no more", x.unfold(0, 0), 1);
        Check.due("then", Check.goal(x, 0), "_ = S _");
        Check.due("goals", x.count(5), 1);
        Check.due("rows", x.count(6), 4);
    }

    private static void provedLaws() {
        Check.sentence("A law must be PROVED: FULL, or the proof is FINITE");
        for (int proved = 0; proved <= 2; proved++) {
            for (int full = 0; full <= 1; full++) {
                Counted x = Check.with(LAWS);
                if (proved > 0) {
                    x.begin(0, proved == 2);
                    Check.due("search", x.search(50) > 0 ? 1 : 0, 1);
                }
                Check.due("it is proved", x.about(0, 0), proved);
                x.begin(0, full == 1);
                int want = proved == 2 || proved == 1 && full == 0 ? 1 : WRONG;
                Check.due("proved " + proved + ", used in " + full, x.law(0, false, 0, 0), want);
                Check.due("rows", x.count(6), want == 1 ? 1 : 0);
            }
        }
        Check.sentence("When a text has a rule, no law is PROVED any more");
        Counted x = Check.with(LAWS);
        x.begin(0, true);
        x.search(50);
        Check.read(x, "law e:add x Z=x;data B=T;fun u:N;");
        Check.due("without a rule it is", x.about(0, 0), 2);
        Check.read(x, "rule u=Z;rule u=");
        Check.due("with a fault it is", x.about(0, 0), 2);
        Check.read(x, "rule u=Z;");
        Check.due("with a rule it is not", x.about(0, 0), 0);
        x.begin(0, false);
        Check.due("nor may it be used", x.law(0, false, 0, 0), WRONG);
        allSixteen();
        Check.sentence("FULL is more");
        x.search(50);
        Check.due("FINITE", x.about(0, 0), 1);
        x.begin(0, true);
        x.search(50);
        Check.due("then FULL", x.about(0, 0), 2);
        x.begin(0, false);
        x.search(50);
        Check.due("then FINITE: it stays FULL", x.about(0, 0), 2);
    }

    private static void allSixteen() {
        StringBuilder laws = new StringBuilder("data N=Z;fun k:N;");
        for (int l = 0; l < 16; l++) {
            laws.append("law l").append((char) ('a' + l)).append(":k=k;");
        }
        Counted x = Check.with(laws.toString());
        for (int l = 0; l < 16; l++) {
            x.begin(l, l % 2 == 0);
            Check.due("same", x.same(), 0);
            Check.due("proved", x.about(l, 0), l % 2 == 0 ? 2 : 1);
        }
        Check.read(x, "rule k=Z;");
        for (int l = 0; l < 16; l++) {
            Check.due("law " + l + " of 16", x.about(l, 0), 0);
        }
    }

    private static void freeVariables() {
        Check.sentence("the other side has no free variable that the one has not");
        Counted x = Check.with("data B=T|F;data N=Z|S N;fun f:N>N>N;rule f x y=x;fun u:B>B;rule u x=x;"
                + "law a:f x y=x;law b:f x x=x;law c:u x=x;law d:f (f x y) (f y x)=f x y;law e:f x (f _ y)=S _;"
                + "law g:u (u T)=u _;");
        for (int law : new int[] {0, 1, 2}) {
            x.begin(law, true);
            Check.due("search", x.search(9) > 0 ? 1 : 0, 1);
        }
        x.begin(3, true);
        Check.due("back, with one more", x.law(0, true, 0, 0), WRONG);
        Check.due("back, with none more", x.law(1, true, 0, 12), 1);
        Check.due("then", Check.goal(x, 0), "f (f v0 (f v1 v1)) (f v1 v0) = f v0 v1");
        Check.due("not just like the one side", x.law(1, false, 0, 1), WRONG);
        Check.due("twice the same", x.law(1, false, 0, 12), 1);
        Check.due("whatever stands for it", x.law(0, false, 0, 2), 1);
        Check.due("then", Check.goal(x, 0), "f (f v0 v1) v1 = f v0 v1");
        twiceTheSame();
        Check.sentence("in place of which anything of their type may stand");
        Check.due("a variable of another type", x.law(2, true, 0, 2), WRONG);
        Check.due("a call of another type", x.law(2, true, 0, 0), WRONG);
        x.begin(4, true);
        Check.due("a constructor of another type", x.law(2, true, 1, 0), WRONG);
        x.begin(5, true);
        Check.due("a constructor of its type", x.law(2, true, 0, 11), 1);
        Check.due("a call of its type", x.law(2, true, 0, 0), 1);
        Check.due("_", x.law(2, true, 1, 1), 1);
        Check.due("then", Check.goal(x, 0), "u (u (u (u T))) = u (u _)");
    }

    private static void undefinedOfAnyType() {
        Check.sentence("_ is of any type: it may stand for a variable of each");
        Counted x = Check.with("data A=A0;data B=B0;data C=C0;data P=P A B C;fun a:A>A;rule a x=x;fun b:B>B;rule b x=x;"
                + "fun c:C>C;rule c x=x;law a:a x=x;law b:b x=x;law c:c x=x;law d:P _ _ _=P x y z;");
        for (int law = 0; law <= 2; law++) {
            x.begin(law, true);
            x.search(9);
        }
        for (int law = 0; law <= 2; law++) {
            for (int place = 1; place <= 3; place++) {
                x.begin(3, true);
                Check.due("law " + law + " back on _ at " + place, x.law(law, true, 0, place), 1);
                Check.due("law " + law + " back on a variable at " + place, x.law(law, true, 1, place),
                        place == law + 1 ? 1 : WRONG);
            }
        }
    }

    private static void noPlace() {
        Check.sentence("WRONG (a row cannot be done: there is no such place): also for a side that is a variable, or _");
        Counted x = Check.with("data O=O1|O2 O;data Q=Q1;fun u:O>O;law a:u x=_;law b:Q1=x;law c:u (u x)=u x;"
                + "law d:Q1=Q1;");
        x.begin(0, true);
        Check.due("law a", x.search(9), 2);
        x.begin(1, false);
        Check.due("law b", x.search(9), 0);
        x.induction(0);
        Check.due("law b by hand", x.same(), 0);
        x.begin(2, false);
        for (int place : new int[] {2, 10, 111, 1111, 5, 9}) {
            Check.due("law a back at " + place, x.law(0, true, 1, place), WRONG);
            Check.due("law a at " + place, x.law(0, false, 1, place), WRONG);
            Check.due("law b back at " + place, x.law(1, true, 1, place), WRONG);
        }
        x.unfold(1, 0);
        Check.due("law a back on _", x.law(0, true, 1, 0), WRONG);
        x.begin(3, false);
        Check.due("law b back", x.law(1, true, 0, 0), 1);
        Check.due("law b back at 1", x.law(1, true, 0, 1), WRONG);
        x.begin(2, true);
        x.cases(0, 1);
        Check.due("a hypothesis", Check.hypothesis(x, 0), "u v0 = _");
        for (int place : new int[] {2, 10, 111, 5}) {
            Check.due("the hypothesis back at " + place, x.hypothesis(0, true, 0, place), WRONG);
            Check.due("the hypothesis back at the right, at " + place, x.hypothesis(0, true, 1, place), WRONG);
        }
        Check.due("the hypothesis back on _", x.hypothesis(0, true, 0, 1), 3);
    }

    private static void twiceTheSame() {
        String[] sides = {"f Z Z", "f (S Z) (S Z)", "f x x", "f (f x y) (f x y)", "f _ _", "f (S Z) Z", "f Z (S Z)",
            "f x y", "f (f x y) (f y x)", "f _ x", "f (S (S Z)) (S Z)"};
        for (int k = 0; k < sides.length; k++) {
            Counted x = Check.with("data N=Z|S N;fun f:N>N>N;rule f x y=x;law a:f x x=x;law b:" + sides[k] + "=Z;law c:S ("
                    + sides[k] + ")=Z;");
            x.begin(0, true);
            x.search(9);
            x.begin(1, true);
            Check.due("f x x on " + sides[k], x.law(0, false, 0, 0), k < 5 ? 1 : WRONG);
            x.begin(2, true);
            Check.due("f x x inside, on " + sides[k], x.law(0, false, 0, 1), k < 5 ? 1 : WRONG);
        }
    }

    private static void sureVariables() {
        Check.sentence("only what is made of constructors and SURE variables alone");
        // Laws a and b are proved FULL, and FINITE; c has what is used in their places.
        String[] terms = {"x", "Z", "S Z", "S (S x)", "_", "S _", "k", "S k", "add Z Z", "S (add x Z)"};
        for (String term : terms) {
            boolean sure = term.indexOf('_') < 0 && term.indexOf('k') < 0 && term.indexOf('a') < 0;
            for (int proved = 1; proved <= 2; proved++) {
                Counted x = Check.with(Check.NUMBERS + "fun k:N;law a:add x Z=x;law c:add (" + term + ") Z=add x Z;");
                x.begin(0, proved == 2);
                x.search(50);
                x.begin(1, false);
                Check.due("law " + proved + " on " + term, x.law(0, false, 0, 0), sure || proved == 2 ? 1 : WRONG);
                x.begin(1, true);
                Check.due("law " + proved + " in FULL on " + term, x.law(0, false, 0, 0), proved == 2 ? 1 : WRONG);
            }
        }
        Counted x = Check.with(Check.NUMBERS + "fun k:N;law a:add x Z=x;law b:add k Z=k;");
        x.begin(0, false);
        x.search(50);
        x.begin(1, false);
        Check.due("cases of a call", x.cases(1, 0), 3);
        x.unfold(0, 0);
        x.same();
        x.unfold(0, 0);
        x.same();
        Check.due("its variable", Check.goal(x, 0), "add (S v0) Z = S v0");
        Check.due("is not SURE", x.law(0, false, 0, 0), WRONG);
        x.begin(0, false);
        x.cases(0, 1);
        x.unfold(0, 0);
        x.same();
        Check.due("what comes of a SURE one", Check.goal(x, 0), "add (S v1) Z = S v1");
        Check.due("is SURE", x.law(0, false, 0, 0), 1);
    }

    private static void fixedVariables() {
        Check.sentence("INDUCTION over a variable that is not FIXED");
        Counted x = Check.with("data N=Z|S N;data P=P N N;fun w:N>N>N;law a:w x y=w x y;law b:P (w x y) y=P (w x y) y;");
        x.begin(0, false);
        x.induction(0);
        x.same();
        Check.due("a new one is", x.induction(2), WRONG);
        Check.due("the other is not", x.induction(1), 2);
        x.begin(0, false);
        x.cases(0, 1);
        x.same();
        Check.due("of cases it is not", x.induction(2), 2);
        x.begin(0, false);
        x.cases(0, 0);
        Check.due("those of a call have gone", x.induction(0), WRONG);
        x.begin(1, false);
        Check.due("cases of a call", x.cases(0, 1), 3);
        Check.due("the variable of the call", x.induction(1), WRONG);
        Check.due("cases of it are fine", x.cases(0, 2), 4);
        x.same();
        Check.due("then", Check.goal(x, 0), "P _ (S v3) = P _ (S v3)");
        Check.due("its hypothesis has what stands for it", Check.hypothesis(x, 0), "w v0 (S v3) = _");
        Check.due("what comes of it is FIXED, too", x.induction(3), WRONG);
        x.same();
        x.same();
        Check.due("the third goal", Check.goal(x, 0), "P (S v2) v1 = P (S v2) v1");
        Check.due("a call's new variable is FIXED", x.induction(2), WRONG);
        Check.due("the call's own one, too", x.induction(1), WRONG);
    }

    private static void fixedFromThenOn() {
        Check.sentence("If it is a call: its variables are FIXED from then on");
        String text = "data N=Z|S N;data P=P N N;fun w:N>N;fun k:N>N>N;rule k Z y=y;rule k (S x) y=k x y;"
                + "law a:P (k x y) (w z)=P (k x y) (w z);law b:P (w y) (k y Z)=P (w y) Z;";
        Counted x = Check.with(text);
        x.begin(0, false);
        Check.due("two goals", x.parts(), 2);
        Check.due("cases of the first one's call", x.cases(0, 0), 4);
        for (int goals = 3; goals >= 1; goals--) {
            x.same();
        }
        Check.due("a variable that the call had not", x.induction(2), 2);
        x.begin(1, false);
        Check.due("two goals", x.parts(), 2);
        Check.due("the search takes an induction over y", x.search(100), 7);
        x.begin(1, false);
        x.parts();
        Check.due("cases of a call with y", x.cases(0, 0), 4);
        Check.due("the search takes cases of y, again and again", x.search(100), 0);
        for (int goals = 3; goals >= 1; goals--) {
            x.same();
        }
        Check.due("the goal beside", Check.goal(x, 0), "k v0 Z = Z");
        Check.due("no induction over y", x.induction(0), WRONG);
        Check.due("cases", x.cases(0, 1), 2);
        Check.due("Z", x.unfold(0, 0), 2);
        Check.due("is done", x.same(), 1);
        Check.due("S of a new variable", Check.goal(x, 0), "k (S v2) Z = Z");
        Check.due("which is FIXED as y was", x.induction(2), WRONG);
        x.begin(1, false);
        x.parts();
        Check.due("a proof that begins has none FIXED", x.induction(0), 3);
    }

    private static void notFixedBeside() {
        Check.sentence("INDUCTION, CASES of a variable: it is FIXED in no other goal");
        Counted x = Check.with("data N=Z|S N;data P=P N N;fun w:N>N;law a:P (w y) (w y)=P (w y) (w y);");
        x.begin(0, false);
        x.parts();
        Check.due("induction in the first goal", x.induction(0), 3);
        x.same();
        x.same();
        Check.due("induction in the second", x.induction(0), 2);
        x.begin(0, false);
        x.parts();
        Check.due("cases in the first goal", x.cases(0, 1), 3);
        x.same();
        x.same();
        Check.due("induction in the second", x.induction(0), 2);
    }

    private static void fixedInInduction() {
        Check.sentence("free being all variables of the old goal that are not FIXED, but it");
        Counted x = Check.with("data N=Z|S N;data P=P N N;fun w:N>N;fun k:N>N>N;law a:P (w y) (k x y)=P (w y) (k x y);");
        x.begin(0, false);
        x.parts();
        x.same();
        x.induction(1);
        x.same();
        Check.due("y is free", Check.hypothesis(x, 0), "k v2 f0 = k v2 f0");
        x.begin(0, false);
        x.parts();
        x.cases(0, 0);
        for (int goals = 3; goals >= 1; goals--) {
            x.same();
        }
        x.induction(1);
        x.same();
        Check.due("y is FIXED since the cases", Check.hypothesis(x, 0), "k v3 v0 = k v3 v0");
    }

    private static void notFixedByRefusal() {
        Check.sentence("What is refused changes nothing: no variable is FIXED");
        Counted x = Check.with("data N=Z|S N;data M=A|B|C|D|E|F|G|H|I|J|K|L;fun w:N>M;law a:w x=w x;");
        x.begin(0, false);
        Check.due("thirteen goals are too many", x.cases(0, 0), EquationProofs.ROOM);
        Check.due("x is not FIXED", x.induction(0), 2);
        Check.sentence("else 0, and the proof is as it was: no variable is FIXED");
        x = Check.with("data N=Z|S N;fun k:N>N;rule k Z=Z;rule k (S x)=k x;law a:k x=S Z;");
        x.begin(0, false);
        Check.due("the search makes FIXED variables", x.search(100), 0);
        Check.due("cases", x.cases(0, 1), 2);
        x.search(100);
        Check.due("their second goal", Check.goal(x, 1), "k (S v1) = S Z");
        x = Check.with("data N=S N|Z;fun k:N>N;rule k Z=Z;rule k (S x)=k x;law a:k x=S Z;");
        x.begin(0, false);
        x.search(100);
        x.cases(0, 1);
        Check.due("the first goal", Check.goal(x, 0), "k (S v1) = S Z");
        Check.due("the new variable has a number that the search used, and is not FIXED", x.induction(1), 3);
    }

    private static void fixedButFree() {
        Check.sentence("then hypotheses have what stands in its place, too, where it is not free");
        Counted x = Check.with("data N=Z|S N;data P=P N N;fun w:N>N>N;law a:P (w x y) y=P (w x y) y;");
        x.begin(0, false);
        x.induction(0);
        x.same();
        Check.due("v1 is free", Check.hypothesis(x, 0), "P (w v2 f1) f1 = P (w v2 f1) f1");
        Check.due("cases of a call fix v1", x.cases(0, 1), 3);
        Check.due("its hypothesis", Check.hypothesis(x, 1), "w (S v2) v1 = _");
        Check.due("cases of v1", x.cases(0, 2), 4);
        Check.due("where it is free it stays", Check.hypothesis(x, 0), "P (w v2 f1) f1 = P (w v2 f1) f1");
        Check.due("where it is not it is replaced", Check.hypothesis(x, 1), "w (S v2) Z = _");
        x.same();
        Check.due("the next goal, free", Check.hypothesis(x, 0), "P (w v2 f1) f1 = P (w v2 f1) f1");
        Check.due("the next goal, not free", Check.hypothesis(x, 1), "w (S v2) (S v4) = _");
        x = Check.with("data N=Z|S N N N;fun m:N>N;fun l:N>N;law a:m x=l x;");
        x.begin(0, false);
        x.induction(0);
        x.unfold(0, 0);
        x.unfold(1, 0);
        x.same();
        Check.due("the step", Check.goal(x, 0), "m (S v1 v2 v3) = l (S v1 v2 v3)");
        Check.due("cases of the third", x.cases(1, 13), 2);
        Check.due("hypothesis 0", Check.hypothesis(x, 0), "m v1 = l v1");
        Check.due("hypothesis 1", Check.hypothesis(x, 1), "m v2 = l v2");
        Check.due("hypothesis 2", Check.hypothesis(x, 2), "m Z = l Z");
        Check.due("cases of the second", x.cases(0, 12), 3);
        Check.due("hypothesis 0", Check.hypothesis(x, 0), "m v1 = l v1");
        Check.due("hypothesis 1", Check.hypothesis(x, 1), "m Z = l Z");
        Check.due("hypothesis 2", Check.hypothesis(x, 2), "m Z = l Z");
    }

    private static void casesOfNothing() {
        Check.sentence("CASES: (A constructor or _: no.)");
        Counted x = Check.with("data N=Z|S N;fun f:N>N;law a:f (S _)=S (f Z);");
        x.begin(0, true);
        Check.due("a constructor with arguments", x.cases(0, 1), WRONG);
        Check.due("_", x.cases(0, 11), WRONG);
        Check.due("a constructor outside", x.cases(1, 0), WRONG);
        Check.due("a constructor without arguments", x.cases(1, 11), WRONG);
        Check.due("no such place", x.cases(1, 2), WRONG);
        Check.due("nothing was done", x.count(6), 0);
        Check.due("a call", x.cases(1, 1), 3);
        Check.due("the call at the other side is another one", Check.goal(x, 0), "f (S _) = S _");
    }

    private static void sameSides() {
        Check.sentence("SAME: both sides are one term");
        String base = "data N=Z|S N;fun f:N>N>N;";
        same(base, "f x y", "f x y", 0);
        same(base, "f x y", "f y x", WRONG);
        same(base, "f x Z", "f x x", WRONG);
        same(base, "f x _", "f x _", 0);
        same(base, "Z", "Z", 0);
        same(base, "Z", "_", WRONG);
        same(base, "S Z", "S (S Z)", WRONG);
        same(base, "S (S Z)", "S Z", WRONG);
        same(base, "f x (S y)", "f x (S y)", 0);
    }

    private static void same(String base, String left, String right, int want) {
        Counted x = Check.with(base + "law a:" + left + "=" + right + ";");
        x.begin(0, true);
        Check.due("same of " + left + " and " + right, x.same(), want);
        Check.due("goals", x.count(5), want == 0 ? 0 : 1);
        Check.due("rows", x.count(6), want == 0 ? 1 : 0);
        Check.due("proved", x.about(0, 0), want == 0 ? 2 : 0);
    }

    private static void oneConstructor() {
        Check.sentence("PARTS: both sides have one constructor outside: a goal for each argument (of one without: none)");
        String base = "data N=Z|Y|S N|C N N N;fun f:N>N;";
        parts(base, "Z", "Z", 0);
        parts(base, "Z", "Y", WRONG);
        parts(base, "S Z", "S Y", 1);
        parts(base, "S x", "C x x x", WRONG);
        parts(base, "C x y Z", "C y x Z", 3);
        parts(base, "S x", "x", WRONG);
        parts(base, "S x", "_", WRONG);
        parts(base, "f x", "f x", WRONG);
        parts(base, "f x", "S x", WRONG);
        parts(base, "S x", "f x", WRONG);
        Counted x = Check.with(base + "law a:C x y Z=C y (f x) Y;");
        x.begin(0, true);
        x.parts();
        Check.due("the first argument", Check.goal(x, 0), "v0 = v1");
        Check.due("the second argument", Check.goal(x, 1), "v1 = f v0");
        Check.due("the third argument", Check.goal(x, 2), "Z = Y");
    }

    private static void parts(String base, String left, String right, int want) {
        Counted x = Check.with(base + "law a:" + left + "=" + right + ";");
        x.begin(0, false);
        Check.due("parts of " + left + " and " + right, x.parts(), want);
        Check.due("goals", x.count(5), want == WRONG ? 1 : want);
        Check.due("rows", x.count(6), want == WRONG ? 0 : 1);
        Check.due("proved", x.about(0, 0), want == 0 ? 1 : 0);
    }

    private static void proofIsDone() {
        Check.sentence("A proof is done when there is no goal; the law is PROVED then");
        Counted x = Check.with("data P=P P P|Z;law a:P Z x=P Z x;law b:Z=Z;");
        x.begin(0, true);
        Check.due("two goals", x.parts(), 2);
        Check.due("one goal", x.same(), 1);
        Check.due("not yet", x.about(0, 0), 0);
        Check.due("no goal", x.same(), 0);
        Check.due("proved", x.about(0, 0), 2);
        Check.due("rows of what is done", x.count(6), 3);
        Check.due("not the other law", x.about(1, 0), 0);
        Check.due("begin again", x.begin(0, false), 1);
        Check.due("no rows then", x.count(6), 0);
        Check.due("it stays proved", x.about(0, 0), 2);
    }
}
