/** "2 WHAT TERMS ARE", and the boundaries of promises 8 and 9: work, steps. */
public final class EdgeWorkTest {
    private static final String BASE = "data N=Z|S N;data B=T|F;data P=P N N;data Q=U|C Q Q Q|E Q;"
            + "fun lo:N;rule lo=S lo;fun lp:N;rule lp=lp;fun un:N>N;fun add:N>N>N;rule add Z y=y;"
            + "rule add (S x) y=S (add x y);";
    private static final String SLOW = "data N=Z|S N;fun a:N>N;rule a x=x;fun b:N>N;rule b x=a (a (a (a (a x))));"
            + "fun c:N>N;rule c x=b (b (b (b (b x))));fun d:N>N;rule d x=c (c (c (c (c x))));"
            + "fun e:N>N;rule e x=d (d (d (d (d x))));";

    public static void main(String[] args) {
        rulesInOrder();
        variablesFitAll();
        constructorsFit();
        undefinedArguments();
        waitingCalls();
        firstPatternFirst();
        outsideFirst();
        noRuleFits();
        oneRuleOnly();
        constructorOutside();
        callOutside();
        stepsAtTheEdge();
        steps2000();
        names120();
        names120OfSums();
        latestWork();
        Check.finish();
    }

    private static void rulesInOrder() {
        Check.sentence("A CALL is MATCHED with the function's rules in order; the first rule that fits");
        String base = BASE + "fun f:N>N;";
        worked(base + "rule f x=Z;rule f x=S Z;", "f Z", 9, 0, 1, "Z");
        worked(base + "rule f Z=Z;rule f x=S x;", "f Z", 9, 0, 1, "Z");
        worked(base + "rule f Z=Z;rule f x=S x;", "f (S Z)", 9, 0, 1, "S (S Z)");
        worked(base + "rule f x=S x;rule f Z=Z;", "f Z", 9, 0, 1, "S Z");
        // Rules of other functions between them do not count.
        worked(base + "rule f (S x)=x;fun g:N>N;rule g x=Z;rule f Z=S Z;", "f Z", 9, 0, 1, "S Z");
        Counted x = Check.with(base + "rule f Z=Z;");
        Check.read(x, "rule f x=S x;");
        Check.due("a rule of a later text", Check.work(x, "f (S Z)", 9), 0);
        Check.due("comes behind", Check.printed(x), "S (S Z)");
        Check.due("those of the first", Check.work(x, "f Z", 9), 0);
        Check.due("which comes first", Check.printed(x), "Z");
    }

    private static void variablesFitAll() {
        Check.sentence("a variable fits all");
        String base = BASE + "fun f:N>N;rule f x=Z;fun g:N>N>P;rule g x y=P y x;";
        worked(base, "f _", 9, 0, 1, "Z");
        worked(base, "f lo", 9, 0, 1, "Z");
        worked(base, "f (S (un _))", 9, 0, 1, "Z");
        Check.sentence("the call is its right side, with what its variables stand for");
        worked(base, "g (S Z) _", 9, 0, 1, "P _ (S Z)");
        worked(base, "g lo lp", 1, 1, 1, "P lp lo");
        worked(BASE + "fun f:N>P;rule f x=P x x;", "f (add Z lo)", 1, 1, 1, "P (add Z lo) (add Z lo)");
    }

    private static void constructorsFit() {
        Check.sentence("a constructor fits that constructor, if its arguments fit, too; it does not fit another one");
        String base = BASE + "fun f:N>N;rule f (S (S Z))=Z;rule f (S Z)=S Z;rule f x=S (S Z);";
        worked(base, "f (S (S Z))", 9, 0, 1, "Z");
        worked(base, "f (S Z)", 9, 0, 1, "S Z");
        worked(base, "f Z", 9, 0, 1, "S (S Z)");
        worked(base, "f (S (S (S Z)))", 9, 0, 1, "S (S Z)");
        String two = BASE + "fun h:P>N;rule h (P Z (S x))=x;rule h (P (S x) y)=y;rule h p=lo;";
        worked(two, "h (P Z (S lo))", 1, 1, 1, "lo");
        worked(two, "h (P (S _) Z)", 9, 0, 1, "Z");
        worked(two, "h (P Z Z)", 1, 1, 1, "lo");
    }

    private static void undefinedArguments() {
        Check.sentence("what is undefined makes the call UNDEFINED");
        String base = BASE + "fun f:N>N;rule f Z=Z;rule f x=S Z;fun g:N>N>N;rule g Z Z=Z;rule g x y=S Z;";
        worked(base, "f _", 9, 0, 1, "_");
        worked(base, "g _ Z", 9, 0, 1, "_");
        worked(base, "g Z _", 9, 0, 1, "_");
        // The second argument is not looked at: the first one does not fit.
        worked(base, "g (S Z) _", 9, 0, 1, "S Z");
        worked(base, "f (un Z)", 9, 0, 2, "_");
        worked(base, "add (S _) _", 9, 0, 2, "S _");
        worked(BASE + "fun f:N>N;rule f (S Z)=Z;rule f x=S Z;", "f (S _)", 9, 0, 1, "_");
    }

    private static void waitingCalls() {
        Check.sentence("a call where a constructor is wanted: the call WAITS for that");
        String base = BASE + "fun f:N>N;rule f Z=Z;rule f x=S Z;";
        worked(base, "f (add Z Z)", 1, 1, 1, "f Z");
        worked(base, "f (add Z Z)", 2, 0, 2, "Z");
        worked(base, "f lp", 7, 1, 7, "f lp");
        worked(BASE + "fun f:N>N;rule f (S Z)=Z;rule f x=x;", "f (S (add Z Z))", 1, 1, 1, "f (S Z)");
        Counted x = Check.with(base + "law a:f x=x;law b:f (f x)=f lo;");
        x.begin(0, true);
        Check.due("a variable: it waits for that, too", x.unfold(0, 0), EquationProofs.WRONG);
        x.begin(1, true);
        Check.due("it waits for a call", x.unfold(0, 0), EquationProofs.WRONG);
        Check.due("another one, too", x.unfold(1, 0), EquationProofs.WRONG);
        Check.due("what it waits for does not", x.unfold(1, 1), 1);
        Check.due("then it waits no more", x.unfold(1, 0), 1);
    }

    private static void firstPatternFirst() {
        Check.sentence("each from its first pattern on");
        String base = BASE + "fun g:N>N>N;rule g Z Z=Z;rule g (S x) y=S Z;";
        worked(base, "g lp _", 3, 1, 3, "g lp _");
        worked(base, "g _ lp", 3, 0, 1, "_");
        worked(base, "g Z lp", 3, 1, 3, "g Z lp");
        worked(base, "g (S Z) lp", 3, 0, 1, "S Z");
        worked(base, "g (add Z Z) (add Z Z)", 1, 1, 1, "g Z (add Z Z)");
        worked(base, "g (add Z Z) (add Z Z)", 2, 1, 2, "g Z Z");
    }

    private static void outsideFirst() {
        Check.sentence("patterns in ( ) from the outside");
        String base = BASE + "fun g:P>N>N;rule g (P (S Z) Z) Z=Z;rule g p x=S Z;";
        worked(base, "g _ lp", 3, 0, 1, "_");
        worked(base, "g (P Z lp) lp", 3, 0, 1, "S Z");
        worked(base, "g (P (S lp) _) _", 3, 1, 3, "g (P (S lp) _) _");
        worked(base, "g (P (S Z) _) lp", 3, 0, 1, "_");
        worked(base, "g (P (S Z) (S _)) lp", 3, 0, 1, "S Z");
        worked(base, "g (P (S (S _)) _) lp", 3, 0, 1, "S Z");
        worked(base, "g (P (S Z) Z) lp", 3, 1, 3, "g (P (S Z) Z) lp");
    }

    private static void noRuleFits() {
        Check.sentence("If none fits: it is UNDEFINED");
        String base = BASE + "fun f:N>N;rule f Z=Z;rule f (S Z)=Z;";
        worked(base, "f (S Z)", 9, 0, 1, "Z");
        worked(base, "f (S (S Z))", 9, 0, 1, "_");
        worked(base, "un lo", 9, 0, 1, "_");
        worked(base, "S (un lp)", 9, 0, 1, "S _");
        worked("data N=Z;fun k:N;", "k", 9, 0, 1, "_");
    }

    private static void oneRuleOnly() {
        Check.sentence("a function without arguments");
        worked("data N=Z|S N;fun k:N;rule k=S Z;", "k", 9, 0, 1, "S Z");
        worked("data N=Z|S N;fun k:N;rule k=S Z;rule k=Z;", "k", 9, 0, 1, "S Z");
        worked("data N=Z|S N;fun k:N;rule k=_;", "k", 9, 0, 1, "_");
    }

    private static void constructorOutside() {
        Check.sentence("if a constructor is outside: of its arguments, from the left, the first one with a call in it");
        worked(BASE, "P (add Z Z) (add Z Z)", 1, 1, 1, "P Z (add Z Z)");
        worked(BASE, "P (S Z) (S (add Z Z))", 1, 0, 1, "P (S Z) (S Z)");
        worked(BASE, "P (S (add Z Z)) (add Z Z)", 1, 1, 1, "P (S Z) (add Z Z)");
        worked(BASE, "P lo (add Z Z)", 2, 1, 2, "P (S (S lo)) (add Z Z)");
        worked(BASE, "P _ (add Z Z)", 1, 0, 1, "P _ Z");
    }

    private static void callOutside() {
        Check.sentence("if a call is outside: as long as it WAITS for a call, that one");
        worked(BASE, "add (add (add Z Z) Z) lo", 1, 1, 1, "add (add Z Z) lo");
        worked(BASE, "add (add (add Z Z) Z) Z", 2, 1, 2, "add Z Z");
        worked(BASE, "add (add (add Z Z) Z) Z", 3, 0, 3, "Z");
        worked(BASE, "add (S (add Z Z)) (add Z Z)", 1, 1, 1, "S (add (add Z Z) (add Z Z))");
        worked(BASE, "add (add _ lo) lo", 9, 0, 2, "_");
    }

    private static void stepsAtTheEdge() {
        Check.sentence("Until there is no call (it is DONE), no step is left");
        String[] becomes = {"add (S Z) (add Z Z)", "S (add Z (add Z Z))", "S (add Z Z)", "S Z", "S Z", "S Z"};
        for (int steps = 0; steps < becomes.length; steps++) {
            worked(BASE, becomes[0], steps, steps < 3 ? 1 : 0, Math.min(steps, 3), becomes[steps]);
        }
        worked(BASE, "S Z", 0, 0, 0, "S Z");
        worked(BASE, "S _", 2000, 0, 0, "S _");
        worked(BASE, "un Z", 0, 1, 0, "un Z");
        worked(BASE, "un Z", 1, 0, 1, "_");
    }

    private static void steps2000() {
        Check.sentence("it is worked out with so many steps (0 .. 2000)");
        // One step of a, 6 of b, 31 of c, 156 of d, 781 of e.
        String exact = "e (e (d (d (c (c (c (c (a (a Z)))))))))";
        int[] answers = {1, 1, 0};
        for (int steps = 1998; steps <= 2000; steps++) {
            Counted x = Check.with(SLOW);
            Check.due("work(" + steps + ")", Check.work(x, exact, steps), answers[steps - 1998]);
            Check.due("steps", x.steps(), steps);
        }
        Counted x = Check.with(SLOW);
        Check.due("2001 would be too many", Check.work(x, "a (" + exact + ")", 2000), 1);
        Check.due("steps", x.steps(), 2000);
        worked(BASE, "lp", 1999, 1, 1999, "lp");
        worked(BASE, "lp", 2000, 1, 2000, "lp");
        for (int steps : new int[] {-1, 2001, Integer.MIN_VALUE, Integer.MAX_VALUE}) {
            x = Check.with(BASE);
            Check.work(x, "add (S Z) Z", 9);
            Check.due("work(" + steps + ")", Check.work(x, "lp", steps), EquationProofs.OUTSIDE);
            Check.due("steps stay", x.steps(), 2);
            Check.due("what was printed stays", Check.printed(x), "S Z");
            Check.due("no fault", x.fault(), 0);
            Check.due("the tape is used up", x.work(0), -1000);
            Check.due("OUTSIDE is ahead of a fault", Check.work(x, "abcdefg", steps), EquationProofs.OUTSIDE);
            Check.due("of kind 2", x.fault(), 2);
        }
    }

    private static void names120() {
        Check.sentence("or the term would have more than 120 names");
        // So many S, ( and blanks, behind so many steps.
        for (int steps = 118; steps <= 122; steps++) {
            Counted x = Check.with(BASE);
            int taken = Math.min(steps, 119);
            Check.due("work(" + steps + ")", Check.work(x, "lo", steps), steps < 120 ? 1 : 2);
            Check.due("steps", x.steps(), taken);
            String want = Check.repeat("S (", taken - 1) + "S lo" + Check.repeat(")", taken - 1);
            Check.due("the last byte", x.printed(want.length() - 1), ')');
            Check.due("behind it", x.printed(want.length()), EquationProofs.NONE);
        }
    }

    private static void names120OfSums() {
        Check.sentence("the term would have more than 120 names: _ and all that is in it count");
        String base = BASE + "fun t:Q>Q;rule t x=C x x x;fun p:Q>Q;rule p x=E (t x);fun q:Q>Q;rule q x=E (E (t x));"
                + "fun r:Q>Q;rule r x=E (E (E (t x)));fun un2:Q>Q;fun j:Q>Q;rule j x=U;";
        for (String inner : new String[] {"U", "_"}) {
            String four = "(C " + inner + " " + inner + " " + inner + ")";
            String thirteen = "(C " + four + " " + four + " " + four + ")";
            String twelve = "(C " + four + " " + four + " (E (E " + inner + ")))";
            String names39 = "(C " + thirteen + " " + thirteen + " " + twelve + ")";
            // Behind the first step 41, 42 or 43 names; the second one puts three times 39 in place of t and 39.
            tooGreat(base, "p " + names39, 0, 2, "E (C");
            tooGreat(base, "q " + names39, 0, 2, "E (E (C");
            tooGreat(base, "r " + names39, 2, 1, "E (E (E (t");
        }
        // What becomes less may go on.
        tooGreat(base, "j (t (t (t (t (t U)))))", 0, 1, "U");
    }

    private static void tooGreat(String base, String term, int answer, int taken, String start) {
        Counted x = Check.with(base);
        Check.due("work of " + term, Check.work(x, term, 9), answer);
        Check.due("steps", x.steps(), taken);
        for (int i = 0; i < start.length(); i++) {
            Check.due("byte " + i + " of " + start, x.printed(i), start.charAt(i));
        }
    }

    private static void latestWork() {
        Check.sentence("How many steps the latest work() took");
        Counted x = Check.with(BASE);
        Check.due("before one", x.steps(), 0);
        Check.work(x, "add (S Z) Z", 9);
        Check.due("two", x.steps(), 2);
        Check.work(x, "Z", 9);
        Check.due("none", x.steps(), 0);
        Check.work(x, "lo", 5);
        Check.due("all", x.steps(), 5);
        Check.read(x, "law a:lo=add (add Z Z) Z;");
        x.test(0, 1, false);
        x.begin(0, true);
        x.search(9);
        Check.due("test, read and search are none", x.steps(), 5);
    }

    private static void worked(String text, String term, int steps, int answer, int taken, String printed) {
        Counted x = Check.with(text);
        Check.due("work(" + steps + ") of " + term, Check.work(x, term, steps), answer);
        Check.due("steps of " + term, x.steps(), taken);
        Check.due(term + " is then", Check.printed(x), printed);
    }
}
