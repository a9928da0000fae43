/** Promises 4 to 7: read, fault, count, about. */
public final class TextTest {
    private static final String BASE = "data N=Z|S N;data B=T|F;data P=P N B;fun f:N>N;fun k:N;fun g:N>B>N;";

    public static void main(String[] args) {
        wholeTexts();
        tokens();
        wrongTokens();
        wrongNames();
        wrongTypes();
        tooMany();
        leastAndFirst();
        nothingOfAFault();
        counting();
        telling();
        Check.finish();
    }

    private static void wholeTexts() {
        Check.due("no decls", Check.read(new Counted(), " \n "), 0);
        Check.due("base", Check.read(new Counted(), BASE), 6);
        fine("rule f (S x)=f x;");
        fine("rule f (Z)=Z;");
        fine("rule g x b=((f ((x))));");
        fine("rule g (S (S x)) T=_;");
        fine("rule k=k;");
        fine("law k:f x=x;");
        fine("law a:(f (f _))=_;");
        fine("law a:k=x;");
        fine("law a:P x b=P y c;");
        fine("\n law  a\n:\nf(x)=S(x)\n;\n");
        fine("data N2=Z2;");
        fine("data Z=P2 Z;");
        fine("data Q=Q1 Q Q Q;");
        fine("fun h:N>N>N>N>N;");
        fine("fun datas:N;rule datas=k;");
        fine("fun x09AzB:N;rule x09AzB=k;data Q0=A0|B9;");
        // A type, a constructor, a function and a law may have one name.
        fine("data T=N T;fun a:T;law a:a=a;");
    }

    private static void tokens() {
        fault("data N3=Abcdefg;", 8, 1);
        fine("data N3=Abcdef;");
        fault("fun abcdefg:N;", 4, 1);
        fault("law a.f x=x;", 5, 1);
        fault("law a:f x=x;.", 12, 1);
        fault("\t", 0, 1);
        fault("law a:f 1=x;", 8, 1);
        fault("law a:f x=x;\0", 12, 1);
    }

    private static void wrongTokens() {
        fault("f", 0, 2);
        fault(";", 0, 2);
        fault("law a:f x=x", 11, 2);
        fault("law a:f x=x  ", 13, 2);
        fault("data n=A;", 5, 2);
        fault("data Q A;", 7, 2);
        fault("data Q=a;", 7, 2);
        fault("data Q=A|;", 9, 2);
        fault("data Q=A>B;", 8, 2);
        fault("fun F:N;", 4, 2);
        fault("fun law:N;", 4, 2);
        fault("fun h N;", 6, 2);
        fault("fun h:n;", 6, 2);
        fault("fun h:N>;", 8, 2);
        fault("rule F x=x;", 5, 2);
        fault("rule f=Z;", 6, 2);
        fault("rule f x y=Z;", 9, 2);
        fault("rule f _=Z;", 7, 2);
        fault("rule f (x)=Z;", 8, 2);
        fault("rule f ((S x))=Z;", 8, 2);
        fault("rule f (S x=Z;", 11, 2);
        fault("rule f (S)=Z;", 9, 2);
        fault("rule f S=Z;", 7, 2);
        fault("rule f k=Z;", 7, 2);
        fault("rule f f=Z;", 7, 2);
        fault("rule f x=S;", 10, 2);
        fault("rule f x=S x x;", 13, 2);
        fault("rule f x=S S x;", 11, 2);
        fault("rule f x=S f x;", 11, 2);
        fault("rule f x=(S x;", 13, 2);
        fault("rule f x=();", 10, 2);
        fault("rule f x=;", 9, 2);
        fault("rule f x=x x;", 11, 2);
        fault("rule f x=_ x;", 11, 2);
        fault("law A:f x=x;", 4, 2);
        fault("law a=f x=x;", 5, 2);
        fault("law a:x=f x;", 6, 2);
        fault("law a:(x)=f x;", 7, 2);
        fault("law a:_=f x;", 6, 2);
        fault("law a:f x;", 9, 2);
        fault("law rule:f x=x;", 4, 2);
    }

    private static void wrongNames() {
        fault("data N=A;", 5, 3);
        fault("data Q=Z;", 7, 3);
        fault("data Q=A|A;", 9, 3);
        fault("data Q=A R;", 9, 3);
        fault("fun f:N;", 4, 3);
        fault("fun h:Q;", 6, 3);
        fault("fun h:N>Q;", 8, 3);
        fault("fun h:N;fun h:N;", 12, 3);
        fault("rule h x=x;", 5, 3);
        fault("rule g x x=x;", 9, 3);
        fault("rule f (Q x)=x;", 8, 3);
        fault("rule f Q=Z;", 7, 3);
        fault("rule f x=y;", 9, 3);
        fault("rule f x=Q;", 9, 3);
        fault("law a:f x=x;law a:f x=x;", 16, 3);
        fault("law a:Q=x;", 6, 3);
    }

    private static void wrongTypes() {
        fault("rule f T=Z;", 7, 4);
        fault("rule f (P x y)=Z;", 8, 4);
        fault("rule f x=T;", 9, 4);
        fault("rule g x b=b;", 11, 4);
        fault("rule f x=S (P x T);", 12, 4);
        fault("rule f x=g x x;", 13, 4);
        fault("law a:g x x=x;", 10, 4);
        fault("law a:f x=T;", 10, 4);
        fault("law a:f T=x;", 8, 4);
        fault("law a:P x b=x;", 12, 4);
        fault("law a:g x b=b;", 12, 4);
    }

    private static void tooMany() {
        fine("data C=C1;data D=D1;data E=E1;");
        fault("data C=C1;data D=D1;data E=E1;data G=G1;", 35, 5);
        // Five constructors are told ahead.
        String eleven = "data Q=A1|A2|A3|A4|A5|A6|A7|A8|A9|B1|B2";
        fine(eleven + ";");
        fault(eleven + "|B3;", eleven.length() + 1, 5);
        fine("data Q=A N N N;");
        fault("data Q=A N N N N;", 15, 5);
        fault("fun h:N>N>N>N>N>N;", 15, 5);
        StringBuilder functions = new StringBuilder();
        for (char c = 'a'; c < 'a' + 13; c++) {
            functions.append("fun x").append(c).append(":N;");
        }
        fine(functions.toString());
        fault(functions + "fun h:N;", functions.length() + 4, 5);
        String rules = Check.repeat("rule k=Z;", 40);
        fine(rules);
        fault(rules + "rule k=Z;", rules.length(), 5);
        StringBuilder laws = new StringBuilder();
        for (char c = 'a'; c < 'a' + 16; c++) {
            laws.append("law ").append(c).append(":k=k;");
        }
        fine(laws.toString());
        fault(laws + "law z:k=k;", laws.length() + 4, 5);
        tooManyOfATerm();
    }

    private static void tooManyOfATerm() {
        String six = "law a:add (add x y) (add z (add u (add v w)))=";
        Check.due("six variables", Check.read(Check.with(Check.NUMBERS), six + "x;"), 1);
        Counted x = Check.with(Check.NUMBERS);
        Check.due("seven variables", Check.read(x, six + "t;"), -1000 - six.length());
        Check.due("seven variables: kind", x.fault(), 5);
        String ten = Check.repeat("(", 10);
        fine("law a:f " + ten + "x" + Check.repeat(")", 10) + "=x;");
        fault("law a:f " + ten + "(x" + Check.repeat(")", 11) + "=x;", 18, 5);
        fine("rule f " + Check.repeat("(S ", 10) + "x" + Check.repeat(")", 10) + "=x;");
        fault("rule f " + Check.repeat("(S ", 11) + "x" + Check.repeat(")", 11) + "=x;", 37, 5);
        String wide = "data Q=U|C Q Q Q;fun w:Q>Q>Q;";
        String seven = "(C (C U U U) U U)";
        String ten2 = "(C (C U U U) (C U U U) U)";
        String thirteen = "(C (C U U U) (C U U U) (C U U U))";
        String forty = "C " + thirteen + " " + thirteen + " " + thirteen;
        fine(wide + "law a:" + forty + "=U;");
        fine(wide + "law a:w U U=" + forty + ";");
        String more = "w " + thirteen + " (C " + thirteen + " (w " + ten2 + " U) _)";
        int last = more.length() - 2;
        fault(wide + "law a:" + more + "=U;", wide.length() + 6 + last, 5);
        fine(wide + "rule w " + thirteen + " (C " + seven + seven + ten2 + ")=U;");
        String left = "w " + thirteen + " (C " + seven + ten2 + ten2 + ")";
        fault(wide + "rule " + left + "=U;", wide.length() + 5 + placeOfName(left, 41), 5);
        Counted work = Check.with(wide);
        Check.due("forty names to be worked out", Check.work(work, forty, 0), 0);
        Check.due("forty-one names", Check.work(work, more, 0), -1000 - last);
        Check.due("forty-one names: kind", work.fault(), 5);
    }

    private static int placeOfName(String text, int number) {
        int names = 0;
        for (int at = 0; at < text.length(); at++) {
            names += Character.isLetter(text.charAt(at)) ? 1 : 0;
            if (names == number) {
                return at;
            }
        }
        return -1;
    }

    private static void leastAndFirst() {
        // A second x on the left where ) is wanted: 2, not 3.
        fault("rule f (S x x)=x;", 12, 2);
        // A name with arguments as an atom, of another type: 2, not 4.
        fault("law a:f P=x;", 8, 2);
        fault("rule f P=Z;", 7, 2);
        // Not known as the fourth argument's type: 3, not 5.
        fault("data Q=A N N N R;", 15, 3);
        // Known already, and one too many: 3.
        fault("data C=C1;data D=D1;data E=E1;data N=G1;", 35, 3);
        // The first of two.
        fault("rule f x=y;rule f T=Z;", 9, 3);
        fault("rule f T=y;", 7, 4);
        fault("law a:x abcdefgh", 6, 2);
    }

    private static void nothingOfAFault() {
        Counted x = Check.with(BASE + "law a:f x=x;");
        x.begin(0, true);
        Check.due("fault behind much", Check.read(x, "data Q=A;fun h:Q;rule h=A;law b:h=h;rule"), -1040);
        Check.due("types", x.count(0), 3);
        Check.due("constructors", x.count(1), 5);
        Check.due("functions", x.count(2), 3);
        Check.due("rules", x.count(3), 0);
        Check.due("laws", x.count(4), 1);
        Check.due("the proof goes on", x.count(5), 1);
        Check.due("the same without the fault", Check.read(x, "data Q=A;fun h:Q;rule h=A;law b:h=h;"), 4);
        Check.due("the proof has ended", x.count(5), 0);
        Check.due("no row is left", x.same(), EquationProofs.STATE);
        Check.due("the latest fault stays", x.fault(), 2);
        x.begin(0, true);
        Check.due("read of nothing", x.read(), 0);
        Check.due("ends the proof, too", x.induction(0), EquationProofs.STATE);
    }

    private static void counting() {
        Counted x = Check.with(BASE + "rule f x=x;law a:f x=x;law b:f (f x)=x;");
        int[] want = {3, 5, 3, 1, 2, 0, 0, 0};
        for (int what = 0; what < want.length; what++) {
            Check.due("count(" + what + ")", x.count(what), want[what]);
        }
        Check.due("count(-1)", x.count(-1), EquationProofs.OUTSIDE);
        Check.due("count(8)", x.count(8), EquationProofs.OUTSIDE);
        x.begin(0, true);
        Check.due("goals", x.count(5), 1);
        Check.due("rows", x.count(6), 0);
        Check.due("induction", x.induction(0), 3);
        Check.due("goals behind induction", x.count(5), 3);
        Check.due("rows behind induction", x.count(6), 1);
        Check.due("a row that is refused", x.parts(), EquationProofs.WRONG);
        Check.due("is none", x.count(6), 1);
        x.search(100);
        Check.due("no goal", x.count(5), 0);
        Check.due("three unfold and same more", x.count(6), 7);
        Check.due("no hypotheses", x.count(7), 0);
        x.begin(1, false);
        Check.due("a new proof has no rows", x.count(6), 0);
    }

    private static void telling() {
        Counted x = Check.with(BASE + "law a:g (f x) b=S (g _ c);law b:k=k;");
        int[] want = {0, 3, 4, 4};
        for (int what = 0; what < want.length; what++) {
            Check.due("about(0, " + what + ")", x.about(0, what), want[what]);
        }
        Check.due("about(1, 1)", x.about(1, 1), 0);
        Check.due("about(0, -1)", x.about(0, -1), EquationProofs.OUTSIDE);
        Check.due("about(0, 4)", x.about(0, 4), EquationProofs.OUTSIDE);
        Check.due("about(2, 0)", x.about(2, 0), EquationProofs.UNKNOWN);
        Check.due("about(-1, 9)", x.about(-1, 9), EquationProofs.UNKNOWN);
        x.begin(1, false);
        x.same();
        Check.due("FINITE", x.about(1, 0), 1);
        x.begin(1, true);
        Check.due("FINITE still", x.about(1, 0), 1);
        x.same();
        Check.due("FULL", x.about(1, 0), 2);
        x.begin(1, false);
        x.same();
        Check.due("FULL is more", x.about(1, 0), 2);
        Check.read(x, "law c:f x=x;fun h:N;data Q=A;");
        Check.due("without a rule laws stay proved", x.about(1, 0), 2);
        Check.read(x, "rule k=Z;rule");
        Check.due("a rule in a text with a fault", x.about(1, 0), 2);
        Check.read(x, "rule k=Z;");
        Check.due("with a rule none is proved", x.about(1, 0), 0);
    }

    /** Behind the base, the text has no fault. */
    private static void fine(String text) {
        Counted x = Check.with(BASE);
        int answer = Check.read(x, text);
        Check.due("read of " + text, answer < 0 ? answer : 0, 0);
        Check.due("fault of " + text, x.fault(), 0);
    }

    /** Behind the base, the text has a fault of this kind at this place. */
    private static void fault(String text, int place, int kind) {
        Counted x = Check.with(BASE);
        Check.due("read of " + text, Check.read(x, text), -1000 - place);
        Check.due("fault of " + text, x.fault(), kind);
    }
}
