import java.util.ArrayList;
import java.util.List;

/**
 * "What is refused changes nothing (but the tape)": in many states, behind each call that is refused, all that can be
 * seen of an object, and all that rows make of it, is as it is without that call.
 */
public final class RefusedTest {
    private static final int UNKNOWN = EquationProofs.UNKNOWN;
    private static final int OUTSIDE = EquationProofs.OUTSIDE;
    private static final int STATE = EquationProofs.STATE;
    private static final int WRONG = EquationProofs.WRONG;
    private static final int ROOM = EquationProofs.ROOM;
    private static final String TAPE = "law  zz : Z = Z ; abc";

    /** Something to be done with an object, and what it answers. */
    private interface Call {
        int on(Counted x);
    }

    /** Something to be seen of an object. */
    private interface Look {
        String at(Counted x);
    }

    private static final List<Look> LOOKS = new ArrayList<>();

    public static void main(String[] args) {
        makeLooks();
        withoutAProof();
        inAProof();
        inAFullProof();
        whenItIsDone();
        withoutRoomForGoals();
        withoutRoomForNames();
        withoutRoomForHypotheses();
        withoutRoomForVariables();
        faults();
        tapes();
        Check.finish();
    }

    private static void makeLooks() {
        LOOKS.add(x -> Check.printed(x) + "|" + x.fault() + "|" + x.steps());
        LOOKS.add(x -> {
            StringBuilder text = new StringBuilder();
            for (int what = 0; what <= 7; what++) {
                text.append(x.count(what)).append(' ');
            }
            return text.toString();
        });
        LOOKS.add(x -> {
            StringBuilder text = new StringBuilder();
            for (int law = 0; law < x.count(4); law++) {
                for (int what = 0; what <= 3; what++) {
                    text.append(x.about(law, what)).append(' ');
                }
            }
            return text.toString();
        });
        for (int k = 0; k < 12; k++) {
            int goal = k;
            LOOKS.add(x -> goal < x.count(5) ? Check.goal(x, goal) : "none");
        }
        for (int k = 0; k < 8; k++) {
            int hypothesis = k;
            LOOKS.add(x -> hypothesis < x.count(7) ? Check.hypothesis(x, hypothesis) : "none");
        }
        LOOKS.add(x -> x.told(0) < 0 ? "none" : Check.printed(x));
        LOOKS.add(x -> feed(x) + "|" + x.read() + "|" + x.fault());
        LOOKS.add(x -> x.search(500) + "|" + x.count(5) + "|" + x.count(6));
        makeLooksBehindRows();
    }

    /** Which variables are FIXED, or SURE, and which number is the next one, is seen by rows alone. */
    private static void makeLooksBehindRows() {
        for (int v = 0; v < 8; v++) {
            int variable = v;
            LOOKS.add(x -> {
                int answer = x.induction(variable);
                return answer + "|" + x.count(7) + "|" + (x.count(5) > 0 ? Check.goal(x, x.count(5) - 1) : "");
            });
        }
        for (int place : new int[] {0, 1, 2, 11}) {
            for (int side = 0; side <= 1; side++) {
                int at = side;
                LOOKS.add(x -> x.cases(at, place) + "|" + (x.count(5) > 0 ? Check.goal(x, x.count(5) - 1) : ""));
                LOOKS.add(x -> x.unfold(at, place) + "|" + (x.count(5) > 0 ? Check.goal(x, 0) : ""));
                LOOKS.add(x -> x.hypothesis(0, false, at, place) + "|" + x.law(0, false, at, place)
                        + (x.count(5) > 0 ? Check.goal(x, 0) : ""));
            }
        }
        LOOKS.add(x -> x.same() + "|" + (x.count(5) > 0 ? Check.goal(x, 0) : "") + x.count(7));
        LOOKS.add(x -> x.parts() + "|" + (x.count(5) > 0 ? Check.goal(x, 0) : "") + x.count(7));
    }

    /** Behind the way to a state, the call is refused so, and all looks as it does without it. */
    private static void refused(String what, Call way, Call call, int want) {
        Counted told = new Counted();
        way.on(told);
        Check.due(what, call.on(told), want);
        int again = call.on(told);
        Check.due(what + " again", again, want);
        if (again != want) {
            return;
        }
        for (int look = 0; look < LOOKS.size(); look++) {
            Counted with = new Counted();
            way.on(with);
            call.on(with);
            Counted without = new Counted();
            way.on(without);
            Check.due(what + ", look " + look, LOOKS.get(look).at(with), LOOKS.get(look).at(without));
        }
    }

    private static final String LAWS = Check.NUMBERS + "law a:add x Z=x;law c:add x y=add y x;law d:add Z x=x;"
            + "law e:S (add x y)=S (add y x);";

    /** Law a is proved; something is told, printed and worked out; the tape has bytes. */
    private static int told(Counted x) {
        Check.read(x, LAWS);
        x.begin(0, true);
        x.search(50);
        x.test(1, 2, true);
        Check.work(x, "add (S Z) Z", 9);
        Check.work(x, "add T Z", 9);
        Check.read(x, "law f:add (add x y) z=add x (add y z);");
        x.showLaw(1, 0);
        Check.tape(x, TAPE);
        return 0;
    }

    private static void withoutAProof() {
        Check.sentence("What is refused changes nothing, without a proof");
        Call way = RefusedTest::told;
        everywhere(way);
        refused("unfold", way, x -> x.unfold(0, 0), STATE);
        refused("law", way, x -> x.law(0, false, 0, 0), STATE);
        refused("hypothesis", way, x -> x.hypothesis(0, false, 0, 0), STATE);
        refused("induction", way, x -> x.induction(0), STATE);
        refused("cases", way, x -> x.cases(0, 0), STATE);
        refused("same", way, x -> x.same(), STATE);
        refused("parts", way, x -> x.parts(), STATE);
        refused("search", way, x -> x.search(5), STATE);
        refused("show", way, x -> x.show(0, 0), STATE);
        refused("showHypothesis", way, x -> x.showHypothesis(0, 0), STATE);
        Call nothingTold = x -> Check.read(x, LAWS);
        refused("told", nothingTold, x -> x.told(0), STATE);
        refused("no law yet", x -> 0, x -> x.begin(0, true), UNKNOWN);
    }

    /** What is refused in every state. */
    private static void everywhere(Call way) {
        refused("count(8)", way, x -> x.count(8), OUTSIDE);
        refused("count(-1)", way, x -> x.count(-1), OUTSIDE);
        refused("about(9, 0)", way, x -> x.about(9, 0), UNKNOWN);
        refused("about(0, 4)", way, x -> x.about(0, 4), OUTSIDE);
        refused("test(9, 1)", way, x -> x.test(9, 1, true), UNKNOWN);
        refused("test(0, 0)", way, x -> x.test(0, 0, true), OUTSIDE);
        refused("test(0, 7)", way, x -> x.test(0, 7, true), OUTSIDE);
        refused("begin(9)", way, x -> x.begin(9, false), UNKNOWN);
        refused("begin(-1)", way, x -> x.begin(-1, true), UNKNOWN);
        refused("unfold at side 2", way, x -> x.unfold(2, 0), OUTSIDE);
        refused("unfold below 0", way, x -> x.unfold(0, -1), OUTSIDE);
        refused("law(9)", way, x -> x.law(9, false, 0, 0), UNKNOWN);
        refused("law at side -1", way, x -> x.law(0, false, -1, 0), OUTSIDE);
        refused("hypothesis at side 2", way, x -> x.hypothesis(0, false, 2, 0), OUTSIDE);
        refused("cases below 0", way, x -> x.cases(1, -5), OUTSIDE);
        refused("search(0)", way, x -> x.search(0), OUTSIDE);
        refused("search(501)", way, x -> x.search(501), OUTSIDE);
        refused("showLaw(9)", way, x -> x.showLaw(9, 0), UNKNOWN);
        refused("showLaw at side 2", way, x -> x.showLaw(0, 2), OUTSIDE);
        refused("printed(-1)", way, x -> x.printed(-1), EquationProofs.NONE);
        refused("end(-1)", way, x -> end(x, -1), 1);
        refused("end(1001)", way, x -> end(x, 1001), 1);
    }

    /** The step of a FINITE induction is the first goal; one goal of cases is behind it. */
    private static int finite(Counted x) {
        told(x);
        x.end(0);
        x.begin(1, false);
        x.induction(0);
        x.unfold(0, 0);
        x.law(0, false, 1, 0);
        x.same();
        x.cases(1, 1);
        x.showLaw(1, 0);
        Check.tape(x, TAPE);
        return x.count(5);
    }

    private static void inAProof() {
        Check.sentence("What is refused changes nothing, in a FINITE proof");
        Call way = RefusedTest::finite;
        everywhere(way);
        inEveryProof(way);
        refused("a fixed variable", way, x -> x.induction(2), WRONG);
        refused("hypothesis(1)", way, x -> x.hypothesis(1, false, 0, 0), WRONG);
        refused("hypothesis at a wrong place", way, x -> x.hypothesis(0, false, 0, 1), WRONG);
        refused("showHypothesis(1)", way, x -> x.showHypothesis(1, 0), OUTSIDE);
        refused("showHypothesis at side 2", way, x -> x.showHypothesis(0, 2), OUTSIDE);
        refused("a search without an end", way, x -> x.search(3), 0);
    }

    private static void inEveryProof(Call way) {
        refused("told(2)", way, x -> x.told(2), UNKNOWN);
        refused("a place that is none", way, x -> x.unfold(0, 9), WRONG);
        refused("a law that is not proved", way, x -> x.law(1, false, 0, 0), WRONG);
        refused("a law at a wrong place", way, x -> x.law(0, false, 0, 9), WRONG);
        refused("a law that is not like it", way, x -> x.law(0, false, 1, 0), WRONG);
        refused("a hypothesis that is none", way, x -> x.hypothesis(-1, false, 0, 0), WRONG);
        refused("no variable", way, x -> x.induction(-1), WRONG);
        refused("a variable that is gone", way, x -> x.induction(0), WRONG);
        refused("a variable that is not given", way, x -> x.induction(59), WRONG);
        refused("cases of a place that is none", way, x -> x.cases(0, 9), WRONG);
        refused("not the same", way, x -> x.same(), WRONG);
        refused("no parts", way, x -> x.parts(), WRONG);
        refused("show(9)", way, x -> x.show(9, 0), OUTSIDE);
        refused("show at side 2", way, x -> x.show(0, 2), OUTSIDE);
    }

    /** Three goals of a FULL induction, then of cases in the last. */
    private static int full(Counted x) {
        told(x);
        x.end(0);
        x.begin(1, true);
        x.cases(0, 1);
        x.showLaw(1, 0);
        Check.tape(x, TAPE);
        return x.count(5);
    }

    private static void inAFullProof() {
        Check.sentence("What is refused changes nothing, in a FULL proof");
        Call way = RefusedTest::full;
        everywhere(way);
        inEveryProof(way);
        refused("cases of _", way, x -> x.cases(0, 1), WRONG);
        refused("unfold of a variable", way, x -> x.unfold(0, 2), WRONG);
        refused("a call that waits", way, x -> x.unfold(1, 0), WRONG);
        refused("search", way, x -> x.search(500), 0);
    }

    private static void whenItIsDone() {
        Check.sentence("What is refused changes nothing, when the proof is done");
        Call way = x -> {
            told(x);
            x.end(0);
            x.begin(2, true);
            x.unfold(0, 0);
            x.same();
            x.showLaw(1, 0);
            Check.tape(x, TAPE);
            return 0;
        };
        everywhere(way);
        refused("unfold", way, x -> x.unfold(0, 0), STATE);
        refused("law", way, x -> x.law(0, false, 0, 0), STATE);
        refused("hypothesis", way, x -> x.hypothesis(0, false, 0, 0), STATE);
        refused("induction", way, x -> x.induction(0), STATE);
        refused("cases", way, x -> x.cases(0, 0), STATE);
        refused("same", way, x -> x.same(), STATE);
        refused("parts", way, x -> x.parts(), STATE);
        refused("search", way, x -> x.search(500), STATE);
    }

    private static void withoutRoomForGoals() {
        Check.sentence("What is refused changes nothing: 12 goals");
        Call way = x -> {
            Check.read(x, "data K=A|B|C|D|E|F K|G|H|I|J|L;data P=P K K K;fun f:K>K;law a:P (f x) y z=P (f x) z y;");
            x.begin(0, false);
            x.induction(0);
            x.showLaw(0, 0);
            return 0;
        };
        refused("parts", way, x -> x.parts(), ROOM);
        refused("induction", way, x -> x.induction(1), ROOM);
        refused("cases", way, x -> x.cases(0, 2), ROOM);
        refused("cases of a call", way, x -> x.cases(0, 1), ROOM);
        refused("search", way, x -> x.search(500), 0);
        Call first = x -> {
            Check.read(x, "data K=A|B|C|D|E|F K|G|H|I|J|L|M K K;fun f:K>K>K;law a:f x y=f x y;");
            return x.begin(0, true);
        };
        refused("induction of one goal", first, x -> x.induction(0), ROOM);
        refused("cases of one goal", first, x -> x.cases(0, 1), ROOM);
        refused("cases of its call", first, x -> x.cases(0, 0), ROOM);
    }

    private static void withoutRoomForNames() {
        Check.sentence("What is refused changes nothing: 60 names");
        Call way = x -> {
            String much = Check.atom(30);
            Check.read(x, "data Q=U|C Q Q Q|E Q;fun t:Q>Q>Q;rule t x y=C x x y;fun k:Q>Q;law a:t x y=C x x y;"
                    + "law b:t " + much + " (C (k x) x (C x x x))=C (k x) x (C (C (k x) (k x) (k x)) x x);"
                    + "law c:t (C x x x) (C (k x) x x)="
                    + "E (C (C x x x) (C (C x x x) (C x x x) (C x x x)) (C (C x x x) x x));");
            x.begin(0, true);
            x.unfold(0, 0);
            x.same();
            return x.begin(1, true);
        };
        refused("unfold", way, x -> x.unfold(0, 0), ROOM);
        refused("law", way, x -> x.law(0, false, 0, 0), ROOM);
        Call big = x -> {
            way.on(x);
            return x.begin(2, true);
        };
        refused("induction", big, x -> x.induction(0), ROOM);
        refused("cases", big, x -> x.cases(0, 11), ROOM);
    }

    private static void withoutRoomForHypotheses() {
        Check.sentence("What is refused changes nothing: 8 hypotheses");
        Call way = x -> {
            String side = "f x y z (k u)";
            Check.read(x, "data Q=C Q Q Q;data E=E E E;fun k:E>E;fun f:Q>Q>E>E>Q;law a:" + side + "=" + side + ";"
                    + "law b:f x y z u=f y x z u;");
            x.begin(0, false);
            x.induction(0);
            x.induction(1);
            x.induction(2);
            x.showLaw(0, 0);
            return x.count(7);
        };
        refused("induction", way, x -> x.induction(3), ROOM);
        refused("cases of a call", way, x -> x.cases(0, 4), ROOM);
        refused("cases of the whole", way, x -> x.cases(0, 0), ROOM);
    }

    private static void withoutRoomForVariables() {
        Check.sentence("What is refused changes nothing: 60 variables");
        Call way = x -> {
            StringBuilder text = new StringBuilder("data Q=C1 Q Q Q");
            for (int c = 2; c <= 9; c++) {
                text.append("|C").append(c).append(" Q Q Q");
            }
            String side = "f x y (P r s)";
            Check.read(x, text + ";data E=E1|E2 E E;data R=R1|R2 R|R3 E E;data P=P R E;fun f:Q>Q>P>Q;fun k:R>R;"
                    + "law a:" + side + "=" + side + ";");
            x.begin(0, false);
            for (int turn = 1; turn <= 2; turn++) {
                x.cases(0, turn);
                for (int goal = 0; goal < 8; goal++) {
                    x.same();
                }
            }
            x.showLaw(0, 0);
            return x.count(5);
        };
        refused("cases", way, x -> x.cases(0, 31), ROOM);
        refused("induction", way, x -> x.induction(2), ROOM);
        refused("cases of a call", way, x -> x.cases(0, 0), ROOM);
    }

    private static void faults() {
        Check.sentence("What has a fault tells nothing: it changes the tape and fault() alone");
        String[] texts = {"data K=A;fun u:N;rule u=Z;rule add x y=x;law zy:u=Z;.", "rule add x y=x;;", "data N=A;",
            "law a:Z=Z;"};
        int[] kinds = {1, 2, 3, 3};
        for (Call way : new Call[] {RefusedTest::told, RefusedTest::finite, RefusedTest::full}) {
            for (int t = 0; t < texts.length; t++) {
                String text = texts[t];
                int kind = kinds[t];
                // The fault's kind is made the same on both sides, and the tape is used up.
                Call same = x -> {
                    way.on(x);
                    x.end(0);
                    Check.read(x, kind == 1 ? "." : kind == 2 ? "Z" : "data N=Z;");
                    return x.fault();
                };
                refused("read of " + text, same, x -> Check.read(x, text) < 0 ? x.fault() : 0, kind);
                Call term = x -> Check.work(x, kind == 1 ? "." : kind == 2 ? "S" : "x", 9) < 0 ? x.fault() : 0;
                refused("work of a fault of kind " + kind, same, term, kind);
            }
        }
    }

    private static void tapes() {
        Check.sentence("What is refused changes nothing (but the tape)");
        Call way = x -> {
            told(x);
            x.end(0);
            return 0;
        };
        refused("work(-1)", way, x -> Check.work(x, "add Z Z", -1), OUTSIDE);
        refused("work(2001)", way, x -> Check.work(x, "add Z Z", 2001), OUTSIDE);
        Counted x = new Counted();
        told(x);
        int length = TAPE.length();
        for (; length <= 980; length += 20) {
            Check.due("feed", feed(x), length + 20);
        }
        Check.due("there is no room for twenty bytes more", feed(x), -1);
        Check.due("nothing has come", end(x, length + 1), 1);
        Check.due("nothing has gone", end(x, length), 0);
        Check.due("what was there is read", x.read(), -1000 - TAPE.indexOf("abc"));
    }

    private static int feed(Counted x) {
        try {
            return x.feed(0x20202020, 0x20202020, 0x20202020, 0x20202020, 0x20202020);
        } catch (IllegalStateException e) {
            return -1;
        }
    }

    private static int end(Counted x, int n) {
        try {
            x.end(n);
            return 0;
        } catch (IllegalArgumentException e) {
            return 1;
        }
    }
}
