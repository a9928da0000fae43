/** How many hypotheses, goals, variables and names a proof has at most: "3 PROOFS", one below, at, and one above. */
public final class EdgeRoomTest {
    private static final int ROOM = EquationProofs.ROOM;
    private static final int WRONG = EquationProofs.WRONG;

    public static void main(String[] args) {
        goalsOfInduction();
        goalsOfCases();
        goalsOfCalls();
        goalsBesideOthers();
        goalsOfParts();
        hypothesesOfInduction();
        hypothesesOfCalls();
        variablesOfRows();
        variablesOfOneRow();
        numbersOnce();
        namesByUnfolding();
        namesByLaws();
        namesByHypotheses();
        namesBySplitting();
        namesByCalls();
        namesOfHypotheses();
        wrongAheadOfRoom();
        Check.finish();
    }

    /** A type with so many constructors without arguments, and a law over it. */
    private static String constants(int many) {
        StringBuilder text = new StringBuilder("data K=A0");
        for (int c = 1; c < many; c++) {
            text.append("|A").append((char) (c < 10 ? '0' + c : 'a' + c - 10));
        }
        return text + ";";
    }

    private static void goalsOfInduction() {
        Check.sentence("12 goals are open at most: INDUCTION");
        for (int many = 10; many <= 14; many++) {
            Counted x = Check.with(constants(many) + "fun k:K>K;law a:k x=k x;");
            x.begin(0, false);
            row(x, "FINITE, " + many + " goals", x.induction(0), many <= 12 ? many : ROOM);
            x.begin(0, true);
            row(x, "FULL, " + (many + 1) + " goals", x.induction(0), many <= 11 ? many + 1 : ROOM);
        }
    }

    private static void goalsOfCases() {
        Check.sentence("12 goals are open at most: CASES of a variable");
        for (int many = 10; many <= 14; many++) {
            Counted x = Check.with(constants(many) + "fun k:K>K;law a:k x=k x;");
            x.begin(0, false);
            row(x, "FINITE, " + many + " goals", x.cases(0, 1), many <= 12 ? many : ROOM);
            x.begin(0, true);
            row(x, "FULL, " + (many + 1) + " goals", x.cases(1, 1), many <= 11 ? many + 1 : ROOM);
        }
    }

    private static void goalsOfCalls() {
        Check.sentence("12 goals are open at most: CASES of a call");
        for (int many = 10; many <= 13; many++) {
            Counted x = Check.with(constants(many) + "fun k:K>K;law a:k x=k x;");
            for (int full = 0; full <= 1; full++) {
                x.begin(0, full == 1);
                row(x, (many + 1) + " goals", x.cases(full, 0), many <= 11 ? many + 1 : ROOM);
                int hypotheses = many <= 11 ? 1 : 0;
                Check.due("hypotheses", x.count(7), hypotheses);
                Check.due("the variable is fixed", x.induction(0) == WRONG ? 1 : 0, hypotheses);
            }
        }
    }

    private static void goalsBesideOthers() {
        Check.sentence("12 goals are open at most: those beside the first count");
        for (int many = 9; many <= 12; many++) {
            Counted x = Check.with(constants(many) + "data M=C|D|E;fun p:M>K>K;law a:p x y=p x y;");
            x.begin(0, false);
            Check.due("three goals", x.induction(0), 3);
            row(x, "in place of the first of three", x.induction(1), many <= 10 ? many + 2 : ROOM);
            x.begin(0, false);
            x.cases(0, 1);
            x.same();
            row(x, "in place of the first of two", x.cases(0, 2), many <= 11 ? many + 1 : ROOM);
            x.begin(0, false);
            x.cases(0, 1);
            x.same();
            x.same();
            row(x, "in place of the only one", x.cases(0, 2), many);
        }
    }

    private static void goalsOfParts() {
        Check.sentence("12 goals are open at most: PARTS");
        for (int many = 9; many <= 12; many++) {
            Counted x = Check.with(constants(many) + "data P=P K K K;law a:P x y z=P x y z;");
            x.begin(0, false);
            x.induction(0);
            row(x, "parts of three", x.parts(), many <= 10 ? many + 2 : ROOM);
            x = Check.with(constants(many) + "data P=P K|R;law a:P x=P x;law b:R=R;");
            x.begin(0, false);
            x.induction(0);
            row(x, "parts of one", x.parts(), many);
            Check.due("its goal has none", x.parts(), many - 1);
        }
    }

    /** Induction gives three hypotheses for a Q, two for an E, one for a D, none for a B. */
    private static String hypothesesOf(String side) {
        return "data Q=C Q Q Q;data E=E E E;data D=D D;data B=B;fun q:Q>Q>Q>Q;fun e:E>E>Q;fun d:D>D>B>Q;law a:"
                + side + "=" + side + ";";
    }

    private static void hypothesesOfInduction() {
        Check.sentence("HYPOTHESES (8 at most): INDUCTION");
        Counted x = Check.with(hypothesesOf("q (q x y z) (e u v) (d w _ _)"));
        x.begin(0, false);
        inducted(x, 0, 3);
        inducted(x, 1, 6);
        refused(x, "nine are too many", x.induction(2), 6);
        inducted(x, 3, 8);
        refused(x, "ten are too many", x.induction(4), 8);
        refused(x, "nine are too many, too", x.induction(5), 8);
        Check.due("cases of a variable have no new ones", x.cases(0, 22), 1);
        Check.due("eight still", x.count(7), 8);
        x = Check.with(hypothesesOf("q (e x y) (e z z) (d u v w)"));
        x.begin(0, false);
        inducted(x, 0, 2);
        inducted(x, 1, 4);
        inducted(x, 2, 6);
        inducted(x, 3, 7);
        inducted(x, 4, 8);
        inducted(x, 5, 8);
        x = Check.with(hypothesesOf("q (e x y) (e z v) (d u _ _)"));
        x.begin(0, false);
        inducted(x, 0, 2);
        inducted(x, 1, 4);
        inducted(x, 2, 6);
        inducted(x, 4, 7);
        refused(x, "nine behind seven", x.induction(3), 7);
    }

    private static void inducted(Counted x, int v, int hypotheses) {
        Check.due("induction(" + v + ")", x.induction(v), 1);
        Check.due("hypotheses behind induction(" + v + ")", x.count(7), hypotheses);
    }

    private static void refused(Counted x, String what, int answer, int hypotheses) {
        Check.due(what, answer, ROOM);
        Check.due(what + ": hypotheses", x.count(7), hypotheses);
    }

    private static void hypothesesOfCalls() {
        Check.sentence("HYPOTHESES (8 at most): CASES of a call");
        String side = "b (b (c A1) (c A2) (c A3) (c A4)) (c A5) (c A6) (b (c A7) (c A8) (c A9) T)";
        Counted x = Check.with("data K=A1|A2|A3|A4|A5|A6|A7|A8|A9;data B=T;fun b:B>B>B>B>B;fun c:K>B;law a:" + side
                + "=" + side + ";");
        x.begin(0, false);
        int[] places = {11, 12, 13, 14, 2, 3, 41, 42};
        for (int k = 0; k < places.length; k++) {
            Check.due("cases at " + places[k], x.cases(0, places[k]), k + 2);
            Check.due("hypotheses", x.count(7), k + 1);
        }
        refused(x, "nine", x.cases(0, 43), 8);
        refused(x, "nine by another call", x.cases(0, 1), 8);
        Check.due("goals", x.count(5), 9);
        Check.due("rows", x.count(6), 8);
        Check.due("same", x.same(), 8);
        Check.due("the goal behind it has as many", x.count(7), 8);
        Check.due("T is not _", Check.hypothesis(x, 7), "c A8 = T");
    }

    /** Nine constructors with three arguments each: cases of a variable give 27 numbers. */
    private static String nine() {
        StringBuilder text = new StringBuilder("data Q=C1 Q Q Q");
        for (int c = 2; c <= 9; c++) {
            text.append("|C").append(c).append(" Q Q Q");
        }
        return text + ";data R=R1|R2 R;data E=E1|E2 E E;";
    }

    /** A proof that has used 54 numbers and the law's; its one goal has its R and its E left. */
    private static Counted used(String more, int own) {
        String side = "f x y " + more;
        Counted x = Check.with(nine() + "data P=P R R|M E;data W=W P P P;fun f:Q>Q>W>Q;law a:" + side + "=" + side + ";");
        Check.due("variables", x.about(0, 1), own);
        x.begin(0, false);
        for (int turn = 1; turn <= 2; turn++) {
            Check.due("27 numbers more", x.cases(0, turn), 9);
            for (int goals = 8; goals >= 1; goals--) {
                Check.due("same", x.same(), goals);
            }
        }
        return x;
    }

    private static void variablesOfRows() {
        Check.sentence("New variables get the next numbers (60 at most)");
        Counted x = used("(W (P r s) (M e) _)", 5);
        row(x, "59 are given: two more are too many", x.cases(0, 321), ROOM);
        row(x, "two more by induction, too", x.induction(4), ROOM);
        row(x, "one more is fine", x.cases(0, 311), 2);
        x.same();
        goal(x, "f (C9 v29 v30 v31) (C9 v56 v57 v58) (W (P (R2 v59) v3) (M v4) _)");
        row(x, "all 60 are given: one more is too many", x.cases(0, 312), ROOM);
        row(x, "by induction, too", x.induction(3), ROOM);
        row(x, "of the last one, too", x.induction(59), ROOM);
        row(x, "by a call, too", x.cases(0, 0), ROOM);
        Check.due("same needs none", x.same(), 0);
        x = used("(W (P r s) (M e) (M _))", 5);
        x.induction(2);
        x.same();
        Check.due("the 60th by induction", x.count(7), 1);
        x = used("(W (P r s) (M e) (P t _))", 6);
        row(x, "60 are given", x.cases(0, 311), ROOM);
        x = used("(W (P r s) _ _)", 4);
        row(x, "58 are given: one more", x.cases(0, 311), 2);
        x.same();
        row(x, "and one more", x.cases(0, 312), 2);
        x.same();
        row(x, "and no more", x.cases(0, 3121), ROOM);
        x = used("(W (M e) _ _)", 3);
        row(x, "57 are given: two more", x.cases(0, 311), 2);
        x.same();
        row(x, "and two more are too many", x.cases(0, 3112), ROOM);
    }

    private static void variablesOfOneRow() {
        Check.sentence("New variables get the next numbers (60 at most): those of one row together");
        // Two splits of 27, then 5 law variables leave one: a type with two constructors of one argument has two.
        for (int own = 4; own <= 5; own++) {
            String side = own == 4 ? "f x y (P a b)" : "f x y (P a (L b c))";
            Counted x = Check.with(nine().replace("data R=R1|R2 R;data E=E1|E2 E E;", "")
                    + "data R=R1 R|R2 R;data S=L R R|O;data P=P R S;fun f:Q>Q>P>Q;law a:" + side + "=" + side + ";");
            x.begin(0, false);
            for (int turn = 1; turn <= 2; turn++) {
                x.cases(0, turn);
                for (int goals = 8; goals >= 1; goals--) {
                    x.same();
                }
            }
            row(x, "two more behind " + (54 + own), x.cases(0, 31), own == 4 ? 2 : ROOM);
        }
    }

    private static void numbersOnce() {
        Check.sentence("numbers are never given twice in a proof");
        Counted x = Check.with(Check.NUMBERS + "law a:add x y=add x y;");
        x.begin(0, true);
        Check.due("cases", x.cases(0, 1), 3);
        Check.due("the first has no new ones: same", x.same(), 2);
        Check.due("Z", x.same(), 1);
        goal(x, "add (S v2) v1");
        Check.due("again", x.cases(0, 11), 3);
        x.same();
        x.same();
        goal(x, "add (S (S v3)) v1");
        Check.due("of the other one", x.cases(0, 2), 3);
        Check.due("the first goal's are not given again", x.cases(0, 111), 5);
        x.same();
        x.same();
        goal(x, "add (S (S (S v5))) _");
        x.begin(0, true);
        x.cases(0, 2);
        x.same();
        x.same();
        goal(x, "add v0 (S v2)");
    }

    /** Terms over Q, whose t puts three in place of one: so many names in all behind it. */
    private static final String GROW = "data Q=U|C Q Q Q|E Q;fun t:Q>Q>Q;rule t x y=C x x y;";

    private static void namesByUnfolding() {
        Check.sentence("A term of a goal has at most 60 names: UNFOLD");
        for (int all = 58; all <= 62; all++) {
            // 1 + twice the first + the second one.
            String left = "t " + Check.atom(24) + " " + Check.atom(all - 49);
            Counted x = Check.with(GROW + "law a:" + left + "=U;law b:U=" + left + ";law c:E (" + left + ")=U;");
            x.begin(0, true);
            row(x, all + " names", x.unfold(0, 0), all <= 60 ? 1 : ROOM);
            x.begin(1, true);
            row(x, all + " names at the right", x.unfold(1, 0), all <= 60 ? 1 : ROOM);
            x.begin(2, true);
            row(x, (all + 1) + " names with what is round it", x.unfold(0, 1), all <= 59 ? 1 : ROOM);
            Check.due("no law is proved", x.about(0, 0) + x.about(1, 0) + x.about(2, 0), 0);
        }
    }

    private static void namesByLaws() {
        Check.sentence("A term of a goal has at most 60 names: LAW");
        for (int all = 58; all <= 62; all++) {
            String left = "t " + Check.atom(24) + " " + Check.atom(all - 49);
            Counted x = Check.with(GROW + "law a:t x y=C x x y;law b:" + left + "=U;");
            x.begin(0, true);
            x.search(9);
            Check.due("proved", x.about(0, 0), 2);
            x.begin(1, true);
            row(x, all + " names", x.law(0, false, 0, 0), all <= 60 ? 1 : ROOM);
            if (all <= 60) {
                Check.due("back it has fewer", x.law(0, true, 0, 0), 1);
                Check.due("and again", x.law(0, false, 0, 0), 1);
            }
        }
    }

    private static void namesByHypotheses() {
        Check.sentence("A term of a goal has at most 60 names: HYPOTHESIS");
        for (int all = 58; all <= 62; all++) {
            // The first goal's hypothesis is that a call of 30 names is _ ; back it puts that in place of one name.
            String right = "C _ " + Check.atom(10) + " " + Check.atom(all - 41);
            Counted x = Check.with("data Q=U|C Q Q Q|E Q;fun u:Q>Q;law a:C (u " + Check.atom(29) + ") U U=" + right + ";");
            Check.due("names of the right side", x.about(0, 3), all - 29);
            x.begin(0, true);
            Check.due("cases", x.cases(0, 1), 4);
            row(x, all + " names", x.hypothesis(0, true, 1, 1), all <= 60 ? 4 : ROOM);
            Check.due("rows", x.count(6), all <= 60 ? 2 : 1);
        }
    }

    /** 40 names: of its 27 innermost ones so many are this one. */
    private static String slots(int many, String name) {
        StringBuilder text = new StringBuilder("H");
        for (int slot = 0; slot < 27; slot++) {
            text.append(slot % 9 == 0 ? " (H" : "").append(slot % 3 == 0 ? " (G" : "");
            text.append(" ").append(slot < many ? name : "D1");
            text.append(slot % 3 == 2 ? ")" : "").append(slot % 9 == 8 ? ")" : "");
        }
        return text.toString();
    }

    private static final String SLOTS = "data D=D1|S D;data G=G D D D|H G G G;fun k:D;";

    private static void namesBySplitting() {
        Check.sentence("A term of a goal has at most 60 names: INDUCTION, CASES of a variable");
        for (int many = 18; many <= 22; many++) {
            Counted x = Check.with(SLOTS + "law a:" + slots(many, "x") + "=G D1 D1 D1;law b:G D1 D1 x=" + slots(many, "x")
                    + ";");
            Check.due("40 names", x.about(0, 2), 40);
            for (int law = 0; law <= 1; law++) {
                for (int full = 0; full <= 1; full++) {
                    int want = many <= 20 ? 2 + full : ROOM;
                    x.begin(law, full == 1);
                    row(x, (40 + many) + " names by induction", x.induction(0), want);
                    x.begin(law, full == 1);
                    row(x, (40 + many) + " names by cases", x.cases(law, 111), want);
                }
            }
        }
    }

    private static void namesByCalls() {
        Check.sentence("A term of a goal has at most 60 names: CASES of a call");
        for (int many = 18; many <= 22; many++) {
            Counted x = Check.with(SLOTS + "law a:" + slots(many, "k") + "=G D1 D1 D1;law b:G D1 D1 k=" + slots(many, "k")
                    + ";");
            for (int law = 0; law <= 1; law++) {
                x.begin(law, false);
                row(x, (40 + many) + " names", x.cases(law, 111), many <= 20 ? 3 : ROOM);
                Check.due("hypotheses", x.count(7), many <= 20 ? 1 : 0);
            }
        }
    }

    private static void namesOfHypotheses() {
        Check.sentence("A term of a hypothesis has at most 60 names: CASES of a FIXED variable");
        for (int variables = 9; variables <= 11; variables++) {
            for (int names = 38; names <= 40; names++) {
                fixedTwice(variables, names);
            }
        }
    }

    /** A law's left side has so many names, of which so many are its variable; its hypothesis grows, the goal does not. */
    private static void fixedTwice(int variables, int names) {
        StringBuilder tree = new StringBuilder("(H");
        for (int slot = 0; slot < 21; slot++) {
            tree.append(slot % 9 == 0 && slot < 18 ? " (H" : "").append(slot % 3 == 0 ? " (G" : "");
            tree.append(" ").append(slot < variables - 1 ? "x" : slot < variables - 1 + names - 33 ? "(S D1)" : "D1");
            tree.append(slot % 3 == 2 ? ")" : "").append(slot % 9 == 8 ? ")" : "");
        }
        Counted x = Check.with(SLOTS + "fun f:G>D>D;fun h:D>D;rule f g x=h x;law a:f " + tree + ") x=h x;");
        Check.due("names", x.about(0, 2), names);
        x.begin(0, false);
        x.induction(0);
        x.unfold(0, 0);
        x.same();
        x.unfold(0, 0);
        Check.due("the step's goal", Check.goal(x, 0), "h (S v1) = h (S v1)");
        Check.due("cases of the fixed variable", x.cases(0, 11), 2);
        x.same();
        int most = names + 2 * variables;
        row(x, most + " names of the hypothesis", x.cases(0, 111), most <= 60 ? 2 : ROOM);
        Check.due("the hypothesis, too", x.showHypothesis(0, 1), most <= 60 ? "h (S D1)".length() : "h (S v2)".length());
    }

    private static void wrongAheadOfRoom() {
        Check.sentence("of several the first one here: .. OUTSIDE, STATE, WRONG, ROOM");
        Counted x = Check.with("data K=A K|B|C|D|E|F|G|H|I|J|L|M;data P=P K K K;fun f:K>K>K;law a:f x y=f x y;"
                + "law b:P x y z=P x y z;");
        x.begin(0, false);
        Check.due("twelve goals", x.induction(0), 12);
        Check.due("a FIXED variable", x.induction(2), WRONG);
        Check.due("no variable", x.induction(7), WRONG);
        Check.due("one that is not FIXED", x.induction(1), ROOM);
        Check.due("cases of a constructor", x.cases(0, 1), WRONG);
        Check.due("cases of the variable in it", x.cases(0, 11), ROOM);
        Check.due("cases of no place", x.cases(0, 3), WRONG);
        Check.due("cases of side 2", x.cases(2, 11), EquationProofs.OUTSIDE);
        Check.due("cases of a call", x.cases(0, 0), ROOM);
        Check.due("parts of calls", x.parts(), WRONG);
        x.begin(1, false);
        x.cases(0, 1);
        Check.due("parts", x.parts(), ROOM);
        Check.due("parts give one more than there were", x.same(), 11);
        Check.due("parts of B", x.parts(), ROOM);
        x.same();
        Check.due("parts of C", x.parts(), 12);
        namesOfWhatIsWrong();
    }

    private static void namesOfWhatIsWrong() {
        String left = "t " + Check.atom(30) + " x";
        Counted x = Check.with(GROW + "fun k:Q>Q>Q;rule k U y=C y y y;law a:t x y=C x x y;law b:" + left + "=k x "
                + Check.atom(30) + ";");
        x.begin(1, true);
        Check.due("a law that is not proved", x.law(0, false, 0, 0), WRONG);
        Check.due("unfold", x.unfold(0, 0), ROOM);
        Check.due("a call that waits", x.unfold(1, 0), WRONG);
        x.begin(0, true);
        x.search(9);
        x.begin(1, true);
        Check.due("a law that is proved", x.law(0, false, 0, 0), ROOM);
        Check.due("at another place", x.law(0, false, 0, 1), WRONG);
        Check.due("at a place below 0", x.law(0, false, 0, -1), EquationProofs.OUTSIDE);
        Check.due("a law that is none", x.law(2, false, 0, 0), EquationProofs.UNKNOWN);
    }

    /** The answer of a row, and that one which is refused is none. */
    private static void row(Counted x, String what, int answer, int want) {
        Check.due(what, answer, want);
        if (want == ROOM) {
            Check.due(what + ": goals", x.count(5) > 0 ? 1 : 0, 1);
        } else {
            Check.due(what + ": goals", x.count(5), want);
        }
    }

    private static void goal(Counted x, String left) {
        Check.due("the first goal", Check.goal(x, 0), left + " = " + left);
    }
}
