/** Which names are known where, what a fault's kind and place are: the other sentences under "Terms". */
public final class EdgeFaultsTest {
    private static final String BASE = "data N=Z|S N;data B=T|F;data P=P N B;fun f:N>N;fun k:N;fun g:N>B>N;";

    public static void main(String[] args) {
        grammar();
        tokensOfDecls();
        namesOnce();
        knownFrom();
        asManyAsArguments();
        withoutBrackets();
        types();
        variablesOfRules();
        variablesOfLaws();
        leftSideOfALaw();
        undefined();
        places();
        leastOfAToken();
        firstFromTheLeft();
        tellsNothing();
        latestFault();
        Check.finish();
    }

    private static void grammar() {
        Check.sentence("text: { decl ';' }; 2 a token that cannot come there");
        same("no decl", "", 0);
        same("one", "law a:k=k;", 1);
        same("two", "law a:k=k;law b:k=k;", 2);
        fault("law a:k=k", 9, 2);
        fault("law a:k=k;;", 10, 2);
        fault(";law a:k=k;", 0, 2);
        fault("law a:k=k;law b:k=k", 19, 2);
        fault("law a:k=k;law", 13, 2);
    }

    /** Of each decl, every token is left out in turn, or comes twice: what comes in its place cannot. */
    private static void tokensOfDecls() {
        Check.sentence("decl: 'data' GREAT '=' con { '|' con }");
        misplaced("Q=A|C N;", 0);
        misplaced("data =A|C N;", 5);
        misplaced("data Q A|C N;", 7);
        misplaced("data Q=|C N;", 7);
        misplaced("data Q=A|;", 9);
        misplaced("data Q=A||C N;", 9);
        misplaced("data Q==A;", 7);
        misplaced("data Q R=A;", 7);
        misplaced("data data Q=A;", 5);
        misplaced("data Q=A=C;", 8);
        misplaced("data Q=A (N);", 9);
        Check.sentence("decl: 'fun' SMALL ':' type { '>' type }");
        misplaced("h:N>B;", 0);
        misplaced("fun :N>B;", 4);
        misplaced("fun h N>B;", 6);
        misplaced("fun h:>B;", 6);
        misplaced("fun h:N B;", 8);
        misplaced("fun h:N>;", 8);
        misplaced("fun h::N;", 6);
        misplaced("fun h i:N;", 6);
        misplaced("fun h:N>>B;", 8);
        misplaced("fun h:(N);", 6);
        misplaced("fun h=N;", 5);
        Check.sentence("decl: 'rule' SMALL { pattern } '=' term");
        misplaced("g (S x) T=f (x);", 0);
        misplaced("rule (S x) T=f (x);", 5);
        misplaced("rule g S x) T=f (x);", 7);
        misplaced("rule g ( x) T=f (x);", 9);
        misplaced("rule g (S ) T=f (x);", 10);
        misplaced("rule g (S x T=f (x);", 12);
        misplaced("rule g (S x) =f (x);", 13);
        misplaced("rule g (S x) T f (x);", 15);
        misplaced("rule g (S x) T=f x);", 18);
        misplaced("rule g (S x) T=f (;", 18);
        misplaced("rule g (S x) T=f (x;", 19);
        misplaced("rule g (S x) T==f (x);", 15);
        misplaced("rule g ((S x)) T=f (x);", 8);
        misplaced("rule g (S x)) T=f (x);", 12);
        misplaced("rule g (S x) T:f (x);", 14);
        Check.sentence("decl: 'law' SMALL ':' term '=' term");
        misplaced("a:f (x)=S x;", 0);
        misplaced("law :f (x)=S x;", 4);
        misplaced("law a f (x)=S x;", 6);
        misplaced("law a:=S x;", 6);
        misplaced("law a:f (x) S x;", 12);
        misplaced("law a:f (x)=;", 12);
        misplaced("law a:f ()=S x;", 9);
        misplaced("law a:f x)=S x;", 9);
        misplaced("law a:f (x=S x;", 10);
        misplaced("law a::f x=x;", 6);
        misplaced("law a:f x==x;", 10);
        misplaced("law a:f x=x=x;", 11);
        misplaced("law a:f x=S x);", 13);
    }

    private static void misplaced(String text, int place) {
        fault(text, place, 2);
    }

    private static void namesOnce() {
        Check.sentence("names of one sort are told once each; 3 a name that is told a second time");
        fault("data N=A;", 5, 3);
        fault("data Q=A;data Q=C;", 14, 3);
        fault("data Q=Z;", 7, 3);
        fault("data Q=A|C|A;", 11, 3);
        fault("data Q=A;data R=A;", 16, 3);
        fault("fun f:N;", 4, 3);
        fault("fun h:N;fun h:B;", 12, 3);
        fault("law a:k=k;law a:k=k;", 14, 3);
        Counted x = Check.with(BASE + "law a:k=k;");
        Check.due("a law of another text", Check.read(x, "law a:k=k;"), -1004);
        Check.due("its kind", x.fault(), 3);
        Check.sentence("a type, a constructor, a function, a law may have one name");
        same("type and constructor", "data Q=Q;", 1);
        same("a type as another's constructor", "data Q=N;data R=B Q;", 2);
        same("function and law", "fun a:N;law a:a=a;law k:k=k;law f:f x=x;", 4);
        same("a variable as a law", "law a:f a=a;law b:f a=a;", 2);
        same("a variable of two rules, and of laws", "rule f x=x;rule g x y=x;law x:f x=x;", 3);
    }

    private static void knownFrom() {
        Check.sentence("A type is known from the '=' of its 'data' on");
        same("in its own data", "data Q=A Q|C Q Q Q;", 1);
        fault("data Q=A R;data R=C;", 9, 3);
        fault("fun h:Q;data Q=A;", 6, 3);
        same("behind its data", "data Q=A;fun h:Q>N;data R=C Q;", 3);
        fault("data Q Q=A;", 7, 2);
        Check.sentence("a constructor is known from its name on");
        fault("data Q=A A;", 9, 3);
        fault("law a:A=A;data Q=A;", 6, 3);
        fault("rule f A=Z;data Q=A;", 7, 3);
        same("behind its data", "data Q=A;law a:A=A;", 2);
        Check.sentence("a function is known from its name on");
        fault("rule h=Z;fun h:N;", 5, 3);
        fault("rule f x=h;fun h:N;", 9, 3);
        same("behind its fun", "fun h:N>N;rule h x=h (h x);law a:h x=x;", 3);
        // Ahead of its fun it is a variable, behind it the function.
        same("a variable until then", "law a:f h=h;rule f h=h;fun h:N;", 3);
        fault("fun h:N;rule f h=h;", 15, 2);
        Counted x = Check.with(BASE + "law a:f h=h;fun h:N;law b:f h=h;");
        Check.due("a variable of the law ahead", x.about(0, 1), 1);
        Check.due("none of the law behind", x.about(1, 1), 0);
        Check.sentence("a law is known behind its ;");
        fault("law a:k=k law a:k=k;", 10, 2);
        fault("law a:k=k;law a:k=k;", 14, 3);
    }

    private static void asManyAsArguments() {
        Check.sentence("A constructor, or function, has as many patterns, or atoms, as it has arguments");
        fault("rule g x=Z;", 8, 2);
        same("two patterns", "rule g x y=Z;", 1);
        fault("rule g x y z=Z;", 11, 2);
        same("none", "rule k=Z;", 1);
        fault("rule k x=Z;", 7, 2);
        fault("rule f (S)=Z;", 9, 2);
        same("one in ( )", "rule f (S x)=Z;", 1);
        fault("rule f (S x y)=Z;", 12, 2);
        same("none in ( )", "rule f (Z)=Z;", 1);
        fault("rule f (Z x)=Z;", 10, 2);
        fault("law a:g k=k;", 9, 2);
        same("two atoms", "law a:g k T=k;", 1);
        fault("law a:g k T T=k;", 12, 2);
        fault("law a:k x=k;", 8, 2);
        fault("law a:k=S;", 9, 2);
        fault("law a:k=S k k;", 12, 2);
        fault("law a:f (g k)=k;", 12, 2);
        fault("law a:f (k k)=k;", 11, 2);
        fault("law a:f x x=k;", 10, 2);
        fault("law a:f x=x x;", 12, 2);
        fault("law a:f x=_ x;", 12, 2);
        fault("law a:f x=(x) x;", 14, 2);
    }

    private static void withoutBrackets() {
        Check.sentence("as an atom, or pattern, without ( ) it has none; 2 a name with arguments as an atom");
        fault("rule f S=Z;", 7, 2);
        fault("rule f S x=Z;", 7, 2);
        same("a constructor without arguments", "rule f Z=Z;", 1);
        fault("rule f x=S f x;", 11, 2);
        fault("rule f x=S S x;", 11, 2);
        same("a function without arguments", "rule f x=S k;", 1);
        same("in ( )", "rule f x=S (f x);", 1);
        fault("law a:P S T=P Z T;", 8, 2);
        fault("law a:f f=k;", 8, 2);
        same("in ( ) without arguments", "law a:f (k)=S (Z);", 1);
        Counted x = Check.with(BASE);
        Check.due("work", Check.work(x, "S S Z", 0), -1002);
        Check.due("its kind", x.fault(), 2);
        Check.sentence("pattern: SMALL | GREAT | '(' GREAT { pattern } ')'");
        fault("rule f ()=Z;", 8, 2);
        fault("rule f (x)=x;", 8, 2);
        fault("rule f ((Z))=Z;", 8, 2);
        fault("rule f (k)=Z;", 8, 2);
        fault("rule f k=Z;", 7, 2);
        fault("rule (f x)=Z;", 5, 2);
    }

    private static void types() {
        Check.sentence("What stands as an argument has that argument's type; 4 a name whose type is another one");
        fault("rule f T=Z;", 7, 4);
        fault("rule f (P x y)=Z;", 8, 4);
        fault("rule f (S T)=Z;", 10, 4);
        fault("rule f x=f T;", 11, 4);
        fault("rule f x=f (P x T);", 12, 4);
        fault("rule g x y=f y;", 13, 4);
        fault("rule g x y=g k x;", 15, 4);
        fault("law a:P T T=P Z T;", 8, 4);
        fault("law a:g k k=k;", 10, 4);
        fault("law a:f (((T)))=k;", 11, 4);
        Counted x = Check.with(BASE);
        Check.due("work", Check.work(x, "g k (f Z)", 0), -1005);
        Check.due("its kind", x.fault(), 4);
        Check.due("any type may be worked out", Check.work(x, "P Z T", 0), 0);
        Check.sentence("both sides of a rule, or law, have one type");
        fault("rule f x=T;", 9, 4);
        fault("rule g x y=y;", 11, 4);
        fault("rule k=P Z T;", 7, 4);
        fault("law a:T=k;", 8, 4);
        fault("law a:P x y=f x;", 12, 4);
        fault("law a:P x y=y;", 12, 4);
        fault("law a:(T)=((k));", 12, 4);
        same("of one type", "law a:P x y=P (f x) T;law b:T=x;", 2);
    }

    private static void variablesOfRules() {
        Check.sentence("in a rule a variable comes just once on the left, and what is right is left; else 3");
        fault("rule g x x=Z;", 9, 3);
        fault("rule f (S f)=Z;", 10, 2);
        Counted x = Check.with("data N=Z|S N|C N N;fun f:N>N>N;");
        Check.due("twice in one pattern", Check.read(x, "rule f (C x x) y=Z;"), -1012);
        Check.due("its kind", x.fault(), 3);
        Check.due("in two patterns", Check.read(x, "rule f (C x y) (S y)=Z;"), -1018);
        Check.due("its kind", x.fault(), 3);
        Check.due("each once", Check.read(x, "rule f (C x y) (S z)=C (C x y) z;"), 1);
        same("not at all on the right", "rule g x y=Z;", 1);
        same("often on the right", "rule f x=g x T;rule g x y=g (g x y) y;", 2);
        fault("rule f x=y;", 9, 3);
        fault("rule f x=f y;", 11, 3);
        fault("rule k=x;", 7, 3);
        // The left side of another rule is none of this one's.
        fault("rule f y=y;rule f x=y;", 20, 3);
        Check.sentence("'rule' with a name that is no function: 3");
        fault("rule h x=x;", 5, 3);
        fault("rule x=x;", 5, 3);
        fault("rule F=Z;", 5, 2);
    }

    private static void variablesOfLaws() {
        Check.sentence("in a law a variable's type is that of the place at which it comes first (numbered so)");
        fault("law a:g x x=k;", 10, 4);
        fault("law a:P x y=P y x;", 14, 4);
        fault("law a:f x=g k x;", 14, 4);
        fault("law a:k=P x T;", 8, 4);
        fault("law a:T=x;law b:g x x=k;", 20, 4);
        Counted x = Check.with(BASE + "law a:P (g b a) a=P c a;law b:k=z;");
        x.showLaw(0, 0);
        Check.due("numbered as they come", Check.printed(x), "P (g v0 v1) v1");
        x.showLaw(0, 1);
        Check.due("on the right, too", Check.printed(x), "P v2 v1");
        x.showLaw(1, 1);
        Check.due("from 0 on for each law", Check.printed(x), "v0");
    }

    private static void leftSideOfALaw() {
        Check.sentence("a law's left side is neither a variable alone nor _ : 2 at it");
        fault("law a:x=k;", 6, 2);
        fault("law a:(x)=k;", 7, 2);
        fault("law a:((x))=k;", 8, 2);
        fault("law a:_=k;", 6, 2);
        fault("law a:(_)=k;", 7, 2);
        same("a function alone", "law a:k=x;", 1);
        same("a constructor alone", "law a:Z=x;", 1);
        same("_ or a variable on the right", "law a:k=_;law b:k=(x);", 2);
        same("a variable or _ in it", "law a:f x=k;law b:f _=k;", 2);
    }

    private static void undefined() {
        Check.sentence("_ is of any type (never in a pattern)");
        same("of any type", "law a:P _ _=P (f _) _;rule f x=_;rule g x y=g _ _;", 3);
        fault("rule f _=Z;", 7, 2);
        fault("rule f (_)=Z;", 8, 2);
        fault("rule f (S _)=Z;", 10, 2);
        fault("rule _=Z;", 5, 2);
        fault("law _:k=k;", 4, 2);
        Counted x = Check.with(BASE);
        Check.due("a term", Check.work(x, "_", 0), 0);
    }

    private static void places() {
        Check.sentence("A FAULT has a PLACE (its token's first byte; the end: how many bytes there are)");
        fault(";", 0, 2);
        fault(" ;", 1, 2);
        fault("law a:k=k;x", 10, 2);
        fault("law a:k=k;  xyz", 12, 2);
        fault("law a:k=k;  abcdefg", 12, 1);
        fault("law a:k=\n\n abc9 k;", 16, 2);
        fault("rule f x=\n\n abc9 k;", 12, 3);
        fault("law a:k", 7, 2);
        fault("law a:k ", 8, 2);
        fault("law a:k\n\n", 9, 2);
        fault("data", 4, 2);
        Counted x = Check.with(BASE);
        Check.due("a term's end", Check.work(x, "f ", 0), -1002);
        Check.due("a term's end without blanks", Check.work(x, "f", 0), -1001);
        Check.due("behind a term", Check.work(x, "k  k", 0), -1003);
        Check.due("a term's first byte", Check.work(x, ")", 0), -1000);
    }

    private static void leastOfAToken() {
        Check.sentence("Of one token the least");
        // 1: too long where no name can come, a type that is too long behind the third argument.
        fault("abcdefg", 0, 1);
        fault("data Q=A N N N Abcdefg;", 15, 1);
        // 2 ahead of 3: not known, or told a second time, where none can come.
        fault("rule g (S x x) y=Z;", 12, 2);
        fault("law a:k y=k;", 8, 2);
        fault("law a:k Q=k;", 8, 2);
        fault("data Q=A|f;", 9, 2);
        // 2 ahead of 4: with arguments as an atom, and of another type.
        fault("law a:f P=k;", 8, 2);
        fault("rule f P=Z;", 7, 2);
        fault("law a:P k f=k;", 10, 2);
        // 3 ahead of 4: it comes a second time, and there as another type.
        fault("rule g x x=x;", 9, 3);
        // 3 ahead of 5: told a second time, or not known, and one too many.
        fault("data Q=A N N N R;", 15, 3);
        fault("data C=C1;data D=D1;data E=E1;data N=G1;", 35, 3);
        leastAtTheLimits();
    }

    private static void leastAtTheLimits() {
        String functions = "fun a:N;fun b:N;fun c:N;fun d:N;fun e:N;fun h:N;fun i:N;fun j:N;fun l:N;fun m:N;fun n:N;"
                + "fun o:N;fun p:N;";
        fault(functions + "fun k:N;", functions.length() + 4, 3);
        fault(functions + "fun q:N;", functions.length() + 4, 5);
        fault("data Q=A0|A1|A2|A3|A4|A5|A6|A7|A8|A9|B0|Z;", 40, 3);
        fault("data Q=A0|A1|A2|A3|A4|A5|A6|A7|A8|A9|B0|B1;", 40, 5);
        StringBuilder laws = new StringBuilder();
        for (char c = 'a'; c < 'a' + 16; c++) {
            laws.append("law ").append(c).append(":k=k;");
        }
        fault(laws + "law a:k=k;", laws.length() + 4, 3);
        fault(laws + "law x:k=k;", laws.length() + 4, 5);
        fault(laws + "law X:k=k;", laws.length() + 4, 2);
        // The 41st name of a term that has another fault, too. G has three arguments of its own type.
        String base = "data G=U|G G G G;data B=T|V B;fun f:G>G;";
        String ten = "(G (G U U U) (G U U U) U)";
        String forty = "G " + ten + ten + "(G " + ten + "(G (G U U U) U U)(f ";
        least(base, "law a:" + forty, "U", 5);
        least(base, "law a:" + forty, "x", 5);
        least(base, "law a:" + forty, "_", 5);
        least(base, "law a:" + forty, "T", 4);
        least(base, "law a:" + forty, "Q", 3);
        least(base, "rule f z=" + forty, "x", 3);
        least(base, "law a:" + forty, "G", 2);
        least(base, "law a:" + forty, "f", 2);
        least(base, "law a:" + forty, ")", 2);
        least(base, "law a:" + forty, "abcdefg", 1);
    }

    /** A text has 40 names of a term, then this token: its fault's kind. */
    private static void least(String base, String text, String token, int kind) {
        Counted x = Check.with(base);
        Check.due("read of " + text + token, Check.read(x, text + token), -1000 - text.length());
        Check.due("its kind", x.fault(), kind);
    }

    private static void firstFromTheLeft() {
        Check.sentence("the first from the left");
        fault("rule f x=y;abcdefg", 9, 3);
        fault("rule f T=y;", 7, 4);
        fault("law a:k=k;law b:T=k;law c:k x;", 18, 4);
        fault("data Q=A N N N N;data N=Z;", 15, 5);
        fault("law a:f Q=abcdefg;", 8, 3);
        fault("law a:x abcdefg", 6, 2);
        fault("x abcdefg", 0, 2);
        fault("rule h abcdefg", 5, 3);
    }

    private static void tellsNothing() {
        Check.sentence("What has a fault tells nothing");
        String told = "data Q=A|C N Q;fun h:Q>N;rule h x=k;rule f x=x;law b:h x=k;law c:f x=x;";
        for (String last : new String[] {"data", "data R=", "fun", "fun u:N", "rule", "rule f x", "law", "law d:k=k", "."}) {
            Counted x = Check.with(BASE + "law a:k=k;");
            x.begin(0, true);
            x.same();
            x.begin(0, true);
            Check.due("a fault is last", Check.read(x, told + last) < 0 ? 1 : 0, 1);
            int[] want = {3, 5, 3, 0, 1, 1, 0, 0};
            for (int what = 0; what < want.length; what++) {
                Check.due("count(" + what + ") behind " + last, x.count(what), want[what]);
            }
            Check.due("a rule that is not told leaves laws proved", x.about(0, 0), 2);
            Check.due("its type is not known", Check.read(x, "fun u:Q;"), -1006);
            Check.due("its constructor is not known", Check.work(x, "A", 0), -1000);
            Check.due("its function is not known", Check.work(x, "h Z", 0), -1000);
            Check.due("its rule is none", Check.work(x, "f Z", 1), 0);
            Check.due("f is undefined", Check.printed(x), "_");
            Check.due("all is told without the fault", Check.read(x, told), 6);
            Check.due("and known then", Check.work(x, "f (S (h A))", 9), 0);
        }
    }

    private static void latestFault() {
        Check.sentence("The KIND of the latest FAULT of read(), work(); 0 before one");
        Counted x = new Counted();
        Check.due("before one", x.fault(), 0);
        Check.read(x, BASE);
        Check.due("a text without one", x.fault(), 0);
        Check.read(x, "rule f x=y;");
        Check.due("3", x.fault(), 3);
        Check.work(x, "Z", 0);
        Check.due("it stays behind a term", x.fault(), 3);
        Check.work(x, "f T", 0);
        Check.due("4 of work", x.fault(), 4);
        Check.read(x, "law a:k=k;");
        Check.due("it stays behind a text", x.fault(), 4);
        Check.work(x, ".", 2001);
        Check.due("OUTSIDE is none", x.fault(), 4);
        Check.work(x, ".", 2000);
        Check.due("1 of work", x.fault(), 1);
        Check.due("a variable", Check.work(x, "f x", 0), -1002);
        Check.due("3 of a variable", x.fault(), 3);
        Check.due("a variable alone", Check.work(x, "x", 0), -1000);
        Check.due("3 of it, too", x.fault(), 3);
    }

    /** Behind the base, the text has so many decls and no fault. */
    private static void same(String what, String text, int decls) {
        Counted x = Check.with(BASE);
        Check.due(what + ": read of " + text, Check.read(x, text), decls);
        Check.due("no fault", x.fault(), 0);
    }

    /** Behind the base, the text has a fault of this kind at this place. */
    private static void fault(String text, int place, int kind) {
        Counted x = Check.with(BASE);
        Check.due("read of " + text, Check.read(x, text), -1000 - place);
        Check.due("fault of " + text, x.fault(), kind);
    }
}
