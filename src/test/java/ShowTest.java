/** Promises 21 to 24: show, showHypothesis, showLaw, printed. */
public final class ShowTest {
    public static void main(String[] args) {
        Counted x = Check.with("data Tree=Leaf|Fork Tree Tree;fun mirror:Tree>Tree;rule mirror Leaf=Leaf;"
                + "rule mirror (Fork l r)=Fork (mirror r) (mirror l);law twice:mirror (mirror (x1))=x1;"
                + "law undo:Fork _ (Fork b a)=Fork (mirror (Fork Leaf a)) _;");
        laws(x);
        goals(x);
        hypotheses(x);
        nothingByRefusals(x);
        twoDigits();
        Check.finish();
    }

    private static void laws(Counted x) {
        printed(x, x.showLaw(0, 0), "mirror (mirror v0)");
        printed(x, x.showLaw(0, 1), "v0");
        printed(x, x.showLaw(1, 0), "Fork _ (Fork v0 v1)");
        printed(x, x.showLaw(1, 1), "Fork (mirror (Fork Leaf v1)) _");
        Check.due("showLaw(2, 0)", x.showLaw(2, 0), EquationProofs.UNKNOWN);
        Check.due("showLaw(-1, 5)", x.showLaw(-1, 5), EquationProofs.UNKNOWN);
        Check.due("showLaw(0, 2)", x.showLaw(0, 2), EquationProofs.OUTSIDE);
        Check.due("showLaw(0, -1)", x.showLaw(0, -1), EquationProofs.OUTSIDE);
    }

    private static void goals(Counted x) {
        Check.due("show without a proof", x.show(0, 0), EquationProofs.STATE);
        x.begin(0, true);
        printed(x, x.show(0, 0), "mirror (mirror v0)");
        printed(x, x.show(0, 1), "v0");
        x.induction(0);
        printed(x, x.show(0, 0), "mirror (mirror _)");
        printed(x, x.show(1, 1), "Leaf");
        printed(x, x.show(2, 0), "mirror (mirror (Fork v1 v2))");
        Check.due("show(3, 0)", x.show(3, 0), EquationProofs.OUTSIDE);
        Check.due("show(-1, 0)", x.show(-1, 0), EquationProofs.OUTSIDE);
        Check.due("show(0, 2)", x.show(0, 2), EquationProofs.OUTSIDE);
        Check.due("show(0, -1)", x.show(0, -1), EquationProofs.OUTSIDE);
    }

    private static void hypotheses(Counted x) {
        x.begin(0, true);
        Check.due("no hypothesis", x.showHypothesis(0, 0), EquationProofs.OUTSIDE);
        x.induction(0);
        Check.due("none of the first goal", x.showHypothesis(0, 0), EquationProofs.OUTSIDE);
        x.unfold(0, 1);
        x.unfold(0, 0);
        x.same();
        x.unfold(0, 1);
        x.unfold(0, 0);
        x.same();
        printed(x, x.showHypothesis(0, 0), "mirror (mirror v1)");
        printed(x, x.showHypothesis(0, 1), "v1");
        printed(x, x.showHypothesis(1, 0), "mirror (mirror v2)");
        printed(x, x.showHypothesis(1, 1), "v2");
        Check.due("showHypothesis(2, 0)", x.showHypothesis(2, 0), EquationProofs.OUTSIDE);
        Check.due("showHypothesis(-1, 0)", x.showHypothesis(-1, 0), EquationProofs.OUTSIDE);
        Check.due("showHypothesis(0, 2)", x.showHypothesis(0, 2), EquationProofs.OUTSIDE);
        Check.due("the rest", x.search(500) > 0 ? 1 : 0, 1);
        Check.due("done: showHypothesis(0, 0)", x.showHypothesis(0, 0), EquationProofs.STATE);
        Check.due("done: show(0, 0)", x.show(0, 0), EquationProofs.STATE);
    }

    private static void nothingByRefusals(Counted x) {
        x.showLaw(0, 0);
        x.showLaw(7, 0);
        x.show(0, 0);
        x.showHypothesis(0, 0);
        x.told(0);
        Check.work(x, "Leaf", -1);
        Check.work(x, "leaf", 1);
        Check.due("what was printed last", Check.printed(x), "mirror (mirror v0)");
        Check.read(x, "law more:Leaf=Leaf;");
        Check.due("read prints nothing", Check.printed(x), "mirror (mirror v0)");
    }

    private static void twoDigits() {
        Counted x = Check.with("data Q=U|C Q Q Q;fun w:Q>Q>Q;law a:w x y=w x y;");
        x.begin(0, false);
        for (int turn = 0; turn < 3; turn++) {
            x.cases(0, turn == 0 ? 1 : turn == 1 ? 11 : 111);
            x.same();
        }
        Check.due("numbers of two digits", Check.goal(x, 0),
                "w (C (C (C v8 v9 v10) v6 v7) v3 v4) v1 = w (C (C (C v8 v9 v10) v6 v7) v3 v4) v1");
        x.induction(10);
        x.same();
        Check.due("f and a number of two digits", Check.hypothesis(x, 0),
                "w (C (C (C f8 f9 v11) f6 f7) f3 f4) f1 = w (C (C (C f8 f9 v11) f6 f7) f3 f4) f1");
    }

    private static void printed(Counted x, int answer, String want) {
        Check.due("bytes of " + want, answer, want.length());
        Check.due("printed", Check.printed(x), want);
    }
}
