/** The boundaries of promises 1, 6, 7 and 21 to 24: count, about, show, showHypothesis, showLaw, printed. */
public final class EdgeShowTest {
    private static final int UNKNOWN = EquationProofs.UNKNOWN;
    private static final int OUTSIDE = EquationProofs.OUTSIDE;
    private static final int STATE = EquationProofs.STATE;
    private static final int NONE = EquationProofs.NONE;

    public static void main(String[] args) {
        constants();
        newObject();
        counts();
        abouts();
        goals();
        hypotheses();
        laws();
        bytes();
        mostBytes();
        brackets();
        variables();
        printedLast();
        calls512();
        Check.finish();
    }

    private static void constants() {
        Check.sentence("The public face");
        Check.due("NONE", EquationProofs.NONE, -1);
        Check.due("UNKNOWN", UNKNOWN, -101);
        Check.due("OUTSIDE", OUTSIDE, -102);
        Check.due("STATE", STATE, -103);
        Check.due("WRONG", EquationProofs.WRONG, -104);
        Check.due("ROOM", EquationProofs.ROOM, -105);
    }

    private static void newObject() {
        Check.sentence("A new object: nothing told, no proof, an empty tape");
        Counted old = Check.with(Check.NUMBERS + "law a:add x Z=x;");
        old.begin(0, true);
        old.induction(0);
        Check.work(old, "add Z Z", 1);
        Counted x = new Counted();
        for (int what = 0; what <= 7; what++) {
            Check.due("count(" + what + ")", x.count(what), 0);
        }
        Check.due("fault()", x.fault(), 0);
        Check.due("steps()", x.steps(), 0);
        Check.due("printed(0)", x.printed(0), NONE);
        Check.due("about(0, 0)", x.about(0, 0), UNKNOWN);
        Check.due("showLaw(0, 0)", x.showLaw(0, 0), UNKNOWN);
        Check.due("begin(0, true)", x.begin(0, true), UNKNOWN);
        Check.due("test(0, 1, true)", x.test(0, 1, true), UNKNOWN);
        Check.due("law(0)", x.law(0, false, 0, 0), UNKNOWN);
        Check.due("told(0)", x.told(0), STATE);
        Check.due("show(0, 0)", x.show(0, 0), STATE);
        Check.due("unfold(0, 0)", x.unfold(0, 0), STATE);
        Check.due("feed", x.feed(0x20202020, 0x20202020, 0x20202020, 0x20202020, 0x20202020), 20);
        Check.due("the other object is as it was", old.count(5), 3);
    }

    private static void counts() {
        Check.sentence("count: what = 0 .. 7. OUTSIDE");
        Counted x = Check.with(Check.NUMBERS + "data B=T;law a:add x Z=x;law b:add x y=add y x;law c:T=T;");
        int[] told = {2, 3, 1, 2, 3};
        for (int what = 0; what < told.length; what++) {
            Check.due("count(" + what + ")", x.count(what), told[what]);
        }
        for (int what : new int[] {-1, 8, 9, -8, Integer.MIN_VALUE, Integer.MAX_VALUE}) {
            Check.due("count(" + what + ")", x.count(what), OUTSIDE);
        }
        Check.sentence("count: goals of the proof (0 without one), rows done in it, hypotheses of its first goal");
        proof(x, "without one", 0, 0, 0);
        x.begin(0, false);
        proof(x, "begun", 1, 0, 0);
        x.induction(0);
        proof(x, "induction", 2, 1, 0);
        x.same();
        proof(x, "refused", 2, 1, 0);
        x.unfold(0, 0);
        proof(x, "unfold", 2, 2, 0);
        x.same();
        proof(x, "same", 1, 3, 1);
        Check.due("search", x.search(9), 3);
        proof(x, "done", 0, 6, 0);
        Check.read(x, "law");
        proof(x, "a fault", 0, 6, 0);
        x.begin(0, false);
        proof(x, "begun again", 1, 0, 0);
        x.induction(0);
        Check.read(x, "law d:T=T;");
        proof(x, "a text has ended it", 0, 0, 0);
    }

    private static void proof(Counted x, String when, int goals, int rows, int hypotheses) {
        Check.due(when + ": goals", x.count(5), goals);
        Check.due(when + ": rows", x.count(6), rows);
        Check.due(when + ": hypotheses", x.count(7), hypotheses);
    }

    private static void abouts() {
        Check.sentence("about: of a law, what = 0 .. 3. UNKNOWN, OUTSIDE");
        Counted x = Check.with(Check.NUMBERS + "law a:add (add x y) _=add (S z) _;law b:Z=_;");
        int[][] want = {{0, 3, 5, 4}, {0, 0, 1, 1}};
        for (int law = 0; law <= 1; law++) {
            for (int what = 0; what <= 3; what++) {
                Check.due("about(" + law + ", " + what + ")", x.about(law, what), want[law][what]);
            }
            for (int what : new int[] {-1, 4, Integer.MIN_VALUE, Integer.MAX_VALUE}) {
                Check.due("about(" + law + ", " + what + ")", x.about(law, what), OUTSIDE);
            }
        }
        for (int law : new int[] {-1, 2, 16, Integer.MIN_VALUE, Integer.MAX_VALUE}) {
            for (int what = -1; what <= 4; what++) {
                Check.due("about(" + law + ", " + what + ")", x.about(law, what), UNKNOWN);
            }
        }
    }

    private static void goals() {
        Check.sentence("show: a side (0, 1) of goal k (0 the first). STATE, OUTSIDE");
        String names = "ABCDEFGHIJKL";
        Counted x = Check.with("data K=" + String.join("|", names.split("")) + ";fun k:K>K;law a:k x=x;");
        for (int side = -1; side <= 2; side++) {
            Check.due("no proof, side " + side, x.show(0, side), STATE);
        }
        x.begin(0, false);
        Check.due("one goal", x.show(0, 1), 2);
        Check.due("not two", x.show(1, 0), OUTSIDE);
        Check.due("twelve goals", x.induction(0), 12);
        for (int k : new int[] {-1, 12, 13, Integer.MIN_VALUE, Integer.MAX_VALUE}) {
            Check.due("show(" + k + ", 0)", x.show(k, 0), OUTSIDE);
        }
        for (int k = 0; k < 12; k++) {
            Check.due("goal " + k, Check.goal(x, k), "k " + names.charAt(k) + " = " + names.charAt(k));
        }
        for (int side : new int[] {-1, 2, Integer.MIN_VALUE, Integer.MAX_VALUE}) {
            Check.due("side " + side, x.show(0, side), OUTSIDE);
            Check.due("side " + side + " of the last", x.show(11, side), OUTSIDE);
        }
    }

    private static void hypotheses() {
        Check.sentence("showHypothesis: a side of hypothesis k of the first goal. STATE, OUTSIDE");
        Counted x = Check.with("data Q=C Q Q Q;data E=E E E;fun f:Q>Q>E>Q;law a:f x y z=f x y z;");
        for (int side = -1; side <= 2; side++) {
            Check.due("no proof, side " + side, x.showHypothesis(0, side), STATE);
        }
        x.begin(0, false);
        Check.due("none yet", x.showHypothesis(0, 0), OUTSIDE);
        for (int v = 0; v < 3; v++) {
            x.induction(v);
        }
        Check.due("eight", x.count(7), 8);
        for (int k : new int[] {-1, 8, 9, Integer.MIN_VALUE, Integer.MAX_VALUE}) {
            Check.due("showHypothesis(" + k + ", 0)", x.showHypothesis(k, 0), OUTSIDE);
        }
        for (int side : new int[] {-1, 2, Integer.MIN_VALUE, Integer.MAX_VALUE}) {
            Check.due("side " + side, x.showHypothesis(7, side), OUTSIDE);
        }
        Check.sentence("free variables as f and their number");
        Check.due("the first", Check.hypothesis(x, 0), "f v3 f1 f2 = f v3 f1 f2");
        Check.due("the fourth", Check.hypothesis(x, 3), "f (C v3 v4 v5) v6 f2 = f (C v3 v4 v5) v6 f2");
        Check.due("the last", Check.hypothesis(x, 7), "f (C v3 v4 v5) (C v6 v7 v8) v10 = f (C v3 v4 v5) (C v6 v7 v8) v10");
        String side = "f (C v3 v4 v5) (C v6 v7 v8) (E v9 v10)";
        Check.due("the goal has v alone", Check.goal(x, 0), side + " = " + side);
    }

    private static void laws() {
        Check.sentence("showLaw: a side of a law. UNKNOWN, OUTSIDE");
        StringBuilder text = new StringBuilder("data N=Z|S N;");
        for (int l = 0; l < 16; l++) {
            text.append("law l").append((char) ('a' + l)).append(":S x=").append(l % 2 == 0 ? "y;" : "Z;");
        }
        Counted x = Check.with(text.toString());
        for (int law = 0; law < 16; law++) {
            Check.due("left of " + law, x.showLaw(law, 0), 4);
            Check.due("right of " + law, x.showLaw(law, 1), law % 2 == 0 ? 2 : 1);
        }
        for (int law : new int[] {-1, 16, 17, Integer.MIN_VALUE, Integer.MAX_VALUE}) {
            for (int side = -1; side <= 2; side++) {
                Check.due("showLaw(" + law + ", " + side + ")", x.showLaw(law, side), UNKNOWN);
            }
        }
        for (int side : new int[] {-1, 2, Integer.MIN_VALUE, Integer.MAX_VALUE}) {
            Check.due("showLaw(0, " + side + ")", x.showLaw(0, side), OUTSIDE);
        }
    }

    private static void bytes() {
        Check.sentence("Byte i of what was PRINTED last; NONE");
        Counted x = Check.with("data N=Z|S N;law a:S (S x)=_;");
        for (int i = -1; i <= 1; i++) {
            Check.due("nothing was printed: " + i, x.printed(i), NONE);
        }
        Check.due("showLaw", x.showLaw(0, 0), 8);
        String want = "S (S v0)";
        for (int i = 0; i < want.length(); i++) {
            Check.due("printed(" + i + ")", x.printed(i), want.charAt(i));
        }
        for (int i : new int[] {-1, 8, 9, 1000, Integer.MIN_VALUE, Integer.MAX_VALUE}) {
            Check.due("printed(" + i + ")", x.printed(i), NONE);
        }
        Check.due("showLaw", x.showLaw(0, 1), 1);
        Check.due("printed(0)", x.printed(0), '_');
        Check.due("nothing is left of what was longer", x.printed(1), NONE);
    }

    private static void mostBytes() {
        Check.sentence("printing: how many bytes; 120 names of 6 bytes are printed whole");
        StringBuilder want = new StringBuilder();
        for (int k = 0; k < 119; k++) {
            want.append(k == 0 ? "Succes " : k == 118 ? "(Succes lastly" : "(Succes ");
        }
        want.append(Check.repeat(")", 118));
        for (int start = 0; start <= want.length(); start += 400) {
            Counted x = Check.with("data N=Z|Succes N;fun lastly:N;rule lastly=Succes lastly;");
            Check.due("work", Check.work(x, "lastly", 2000), 2);
            for (int i = start; i < start + 400 && i <= want.length() + 5; i++) {
                Check.due("printed(" + i + ")", x.printed(i), i < want.length() ? want.charAt(i) : NONE);
            }
        }
    }

    private static void brackets() {
        Check.sentence("one blank between, ( ) round arguments that have arguments");
        String[] terms = {"Z", "_", "S Z", "S _", "S (S Z)", "C Z _ Z", "C (S Z) Z (S Z)", "C Z (S Z) Z",
            "C (C Z Z Z) (C Z Z (S _)) (C (S (S Z)) _ Z)", "S (C Z Z (S (S Z)))", "S (S (S (C Z Z Z)))"};
        for (String term : terms) {
            Counted x = Check.with("data N=Z|S N|C N N N;law a:Z=" + term + ";");
            Check.due("work of " + term, Check.work(x, term, 0), 0);
            Check.due("printed", Check.printed(x), term);
            Check.due("showLaw of " + term, x.showLaw(0, 1), term.length());
            Check.due("printed", Check.printed(x), term);
            Check.work(x, "((" + term.replace(" ", "\n ") + " ))", 0);
            Check.due("printed without what is too much", Check.printed(x), term);
        }
    }

    private static void variables() {
        Check.sentence("variables as v and their number");
        Counted x = Check.with("data Q=C Q Q Q;fun f:Q>Q>Q;law a:f x y=f x y;");
        x.begin(0, false);
        int[] places = {1, 11, 111, 1111};
        String[] want = {"f (C v2 v3 v4) v1", "f (C (C v5 v6 v7) v3 v4) v1", "f (C (C (C v8 v9 v10) v6 v7) v3 v4) v1",
            "f (C (C (C (C v11 v12 v13) v9 v10) v6 v7) v3 v4) v1"};
        for (int k = 0; k < places.length; k++) {
            x.cases(0, places[k]);
            Check.due("goal", Check.goal(x, 0), want[k] + " = " + want[k]);
        }
    }

    private static void printedLast() {
        Check.sentence("what was PRINTED last: by work, told, show, showHypothesis, showLaw alone");
        Counted x = Check.with(Check.NUMBERS + "law a:add x Z=x;law b:add x y=y;");
        x.begin(0, false);
        x.induction(0);
        x.unfold(0, 0);
        x.same();
        x.showHypothesis(0, 0);
        Check.due("showHypothesis", Check.printed(x), "add v1 Z");
        x.show(0, 0);
        Check.due("show", Check.printed(x), "add (S v1) Z");
        x.showLaw(1, 0);
        Check.due("showLaw", Check.printed(x), "add v0 v1");
        x.test(1, 2, false);
        x.unfold(0, 0);
        x.search(9);
        x.count(5);
        x.about(0, 0);
        x.begin(1, true);
        Check.read(x, "law c:Z=Z;");
        Check.due("none of these", Check.printed(x), "add v0 v1");
        x.told(0);
        Check.due("told", Check.printed(x), "S Z");
        Check.work(x, "add Z (S Z)", 0);
        Check.due("work", Check.printed(x), "add Z (S Z)");
    }

    private static void calls512() {
        Check.sentence("An object is used for at most 512 calls");
        Counted x = Check.with(Check.NUMBERS + "law a:add x Z=x;law b:add x y=add y x;");
        while (x.calls() < Counted.MOST_CALLS - 4) {
            x.begin(1, true);
            Check.due("a search without an end", x.search(500), 0);
        }
        x.begin(0, true);
        Check.due("the last search", x.search(500), 8);
        Check.due("calls", x.calls() >= Counted.MOST_CALLS - 3 ? 1 : 0, 1);
        Check.due("it is proved", x.about(0, 0), 2);
        while (x.calls() < Counted.MOST_CALLS) {
            Check.due("up to the last call", x.count(6), 8);
        }
    }
}
