/** How many of each there may be: the sentences on limits under "Terms", one below, at, and one above each. */
public final class EdgeLimitsTest {
    private static final String WIDE = "data Q=U|C Q Q Q|S Q;fun w:Q>Q>Q;fun i:Q>Q;";

    public static void main(String[] args) {
        types();
        constructors();
        constructorArguments();
        functions();
        functionArguments();
        rules();
        laws();
        lawVariables();
        ruleVariables();
        namesOfTerms();
        undefinedIsCounted();
        depth();
        depthBeside();
        Check.finish();
    }

    /** A decl of a kind, by its number. */
    private interface Decl {
        String text(int number);
    }

    /** So many decls behind a base, in as many texts as the tape needs: the first fault's answer, or 0. */
    private static int told(Counted x, Decl decl, int many) {
        StringBuilder text = new StringBuilder();
        for (int n = 0; n < many; n++) {
            if (text.length() > 900) {
                Check.due("a part of the text", Check.read(x, text.toString()) < 0 ? 1 : 0, 0);
                text.setLength(0);
            }
            text.append(decl.text(n));
        }
        int answer = Check.read(x, text.toString());
        return answer < 0 ? answer : 0;
    }

    /** One below, at, and one above how many there may be; the one above has its fault behind so many bytes of it. */
    private static void most(String base, Decl decl, int most, int what, int behind) {
        for (int many = most - 1; many <= most; many++) {
            Counted x = Check.with(base);
            Check.due(many + " of " + decl.text(0), told(x, decl, many), 0);
            Check.due("as many are told", x.count(what), many);
        }
        Counted one = Check.with(base);
        told(one, decl, most);
        Check.due("one more, alone", Check.read(one, decl.text(most)), -1000 - behind);
        Check.due("its kind", one.fault(), 5);
        Check.due("it is not told", one.count(what), most);
        Counted all = Check.with(base);
        told(all, decl, most - 1);
        String two = decl.text(most - 1) + decl.text(most);
        Check.due("two more", Check.read(all, two), -1000 - decl.text(most - 1).length() - behind);
        Check.due("their kind", all.fault(), 5);
        Check.due("neither is told", all.count(what), most - 1);
        Check.due("the first of them", Check.read(all, decl.text(most - 1)), 1);
        Check.due("is told alone", all.count(what), most);
    }

    private static void types() {
        Check.sentence("TYPES (6 at most); 5 one too many: a type (at the name)");
        most("", n -> "data T" + n + "=C" + n + ";", 6, 0, 5);
        Counted x = new Counted();
        Check.due("seven in one text", told(x, n -> "data T" + n + "=C" + n + ";", 7), -1000 - 6 * 11 - 5);
        Check.due("none of them is told", x.count(0) + x.count(1), 0);
    }

    private static void constructors() {
        Check.sentence("CONSTRUCTORS (16 in all); 5 one too many: a constructor (at the name)");
        for (int many = 15; many <= 17; many++) {
            StringBuilder text = new StringBuilder("data A=A0|A1|A2;data B=B0|B1");
            for (int c = 5; c < many; c++) {
                text.append("|B").append((char) ('a' + c));
            }
            Counted x = new Counted();
            Check.due(many + " constructors", Check.read(x, text + ";"), many == 17 ? -1000 - text.length() + 2 : 2);
            Check.due("the kind", x.fault(), many == 17 ? 5 : 0);
            Check.due("so many are told", x.count(1), many == 17 ? 0 : many);
        }
        String sixteen = "data A=A0|A1|A2|A3|A4|A5|A6|A7|A8|A9|Aa|Ab|Ac|Ad|Ae|Af";
        Counted y = new Counted();
        Check.due("seventeen of one type", Check.read(y, sixteen + "|Ag;"), -1000 - sixteen.length() - 1);
        Check.due("their kind", y.fault(), 5);
        Counted x = Check.with(sixteen + ";");
        Check.due("one more in another text", Check.read(x, "data B=B0;"), -1007);
        Check.due("its kind", x.fault(), 5);
        Check.due("its type is not told, either", x.count(0), 1);
    }

    private static void constructorArguments() {
        Check.sentence("CONSTRUCTORS have 3 arguments at most each; 5 an argument (at its type)");
        for (int many = 0; many <= 5; many++) {
            String text = "data N=Z;data T=U|C" + Check.repeat(" N", many);
            Counted x = new Counted();
            Check.due(many + " arguments", Check.read(x, text + "|D" + Check.repeat(" N", 3) + ";"),
                    many > 3 ? -1000 - 26 : 2);
            Check.due("the kind", x.fault(), many > 3 ? 5 : 0);
            Check.due("constructors", x.count(1), many > 3 ? 0 : 4);
            if (many <= 3) {
                Check.due("as many atoms", Check.work(x, "C" + Check.repeat(" Z", many), 0), 0);
                Check.due("one more", Check.work(x, "C" + Check.repeat(" Z", many + 1), 0), -1000 - 2 * many - 2);
            }
        }
    }

    private static void functions() {
        Check.sentence("FUNCTIONS (16); 5 one too many: a function (at the name)");
        most("data N=Z;", n -> "fun f" + (char) ('a' + n) + ":N;", 16, 2, 4);
    }

    private static void functionArguments() {
        Check.sentence("FUNCTIONS have 4 arguments at most; 5 an argument (at the 5th '>')");
        for (int many = 0; many <= 6; many++) {
            Counted x = Check.with("data N=Z;");
            String text = "fun f:" + Check.repeat("N > ", many) + "N;";
            Check.due(many + " arguments", Check.read(x, text), many > 4 ? -1000 - 6 - 18 : 1);
            Check.due("the kind", x.fault(), many > 4 ? 5 : 0);
            Check.due("functions", x.count(2), many > 4 ? 0 : 1);
            if (many <= 4) {
                Check.due("as many atoms", Check.work(x, "f" + Check.repeat(" Z", many), 9), 0);
                Check.due("one more", Check.work(x, "f" + Check.repeat(" Z", many + 1), 9), -1000 - 2 * many - 2);
            }
        }
        Counted x = Check.with("data N=Z;");
        Check.due("the 5th > ahead of what is behind it", Check.read(x, "fun f:N>N>N>N>N>Q;"), -1015);
        Check.due("its kind", x.fault(), 5);
    }

    private static void rules() {
        Check.sentence("RULES (40); 5 one too many: a rule (at 'rule')");
        most("data N=Z|S N;fun f:N>N;fun g:N;", n -> n % 2 == 0 ? "rule f x=x;" : "rule g=Z;", 40, 3, 0);
        Counted x = Check.with("data N=Z;fun f:N;" + Check.repeat("rule f=Z;", 40));
        Check.due("ahead of all that is behind 'rule'", Check.read(x, "rule"), -1000);
        Check.due("its kind", x.fault(), 5);
    }

    private static void laws() {
        Check.sentence("LAWS (16); 5 one too many: a law (at the name)");
        most("data N=Z;", n -> "law l" + (char) ('a' + n) + ":Z=Z;", 16, 4, 4);
        Counted x = Check.with("data N=Z|S N;");
        told(x, n -> "law l" + (char) ('a' + n) + ":Z=" + (n % 2 == 0 ? "Z;" : "S Z;"), 16);
        Check.due("numbered from 0 on", x.about(0, 3), 1);
        Check.due("as they are told", x.about(1, 3), 2);
        Check.due("the last", x.about(15, 3), 2);
        Check.due("one behind the last", x.about(16, 3), EquationProofs.UNKNOWN);
        Check.due("one ahead of the first", x.about(-1, 3), EquationProofs.UNKNOWN);
    }

    private static void lawVariables() {
        Check.sentence("in a law variables are 6 at most; 5 one too many: a variable");
        String five = "C (C a b c) d e";
        law(five, "U", 5, -1);
        law("C (C a b c) d (C e f f)", "C a (C b c d) (C e f U)", 6, -1);
        law("C (C a b c) d (C e f g)", "U", 7, 21);
        law(five, "C f f f", 6, -1);
        law(five, "C f g U", 7, 4);
        law("C (C a b c) d (C e f a)", "g", 7, 0);
    }

    /** A law with so many variables; a place at or above 0 is that of its fault, on the side that has seven. */
    private static void law(String left, String right, int variables, int place) {
        Counted x = Check.with(WIDE);
        String start = "law a:" + left + "=";
        boolean atLeft = left.contains("g");
        Check.due("law of " + variables, Check.read(x, start + right + ";"),
                place < 0 ? 1 : -1000 - place - (atLeft ? 6 : start.length()));
        Check.due("the kind", x.fault(), place < 0 ? 0 : 5);
        Check.due("variables", x.about(0, 1), place < 0 ? variables : EquationProofs.UNKNOWN);
    }

    private static void ruleVariables() {
        Check.sentence("a variable that is one too many is a law's: a rule has as many as its left side has names for");
        String base = WIDE + "fun q:Q>Q>Q>Q>Q;";
        String left = "q " + chain(3, "a") + " " + chain(3, "b") + " " + chain(3, "c") + " " + chain(2, "d");
        for (String variable : new String[] {"a1", "b4", "c7", "d1", "d5"}) {
            Counted x = Check.with(base);
            Check.due("26 variables", Check.read(x, "rule " + left + "=" + variable + ";"), 1);
            String call = left.replaceAll("\\b" + variable + "\\b", "_").replaceAll("[a-d][1-9]", "U");
            Check.due("work of " + call, Check.work(x, call, 1), 0);
            Check.due("what stands for " + variable, Check.printed(x), "_");
        }
    }

    /** C in one another, with two variables and the next one each; the last has three. */
    private static String chain(int many, String letter) {
        String text = letter + (2 * many + 1);
        for (int k = many; k >= 1; k--) {
            text = "(C " + letter + (2 * k - 1) + " " + letter + 2 * k + " " + text + ")";
        }
        return text;
    }

    private static void namesOfTerms() {
        Check.sentence("Terms, and a rule's left side, have at most 40 names; 5 one too many: a name of a term");
        for (int names = 39; names <= 42; names++) {
            String term = term(names, "U");
            limited("law a:", term, "=U;");
            limited("law a:U=", term, ";");
            limited("law a:", "i (" + term(names - 1, "U") + ")", "=U;");
            limited("rule i x=", term, ";");
            limited("rule ", "i (" + term(names - 1, "U") + ")", "=U;");
            limited("rule ", "w (" + term(20, "U") + ") (" + term(names - 21, "U") + ")", "=U;");
            limited("rule ", "w (" + term(names - 2, "U") + ") x", "=x;");
            worked(term);
            worked("i (" + term(names - 1, "U") + ")");
        }
        Counted x = Check.with(WIDE);
        String forty = term(40, "U");
        Check.due("40 on each side of a law", Check.read(x, "law a:" + forty + "=" + forty + ";"), 1);
        Check.due("names of its left side", x.about(0, 2), 40);
        Check.due("names of its right side", x.about(0, 3), 40);
        String rule = "rule i (" + term(39, "U") + ")=" + forty + ";";
        Check.due("40 on each side of a rule", Check.read(x, rule), 1);
    }

    private static void undefinedIsCounted() {
        Check.sentence("Terms have at most 40 names and _");
        for (int names = 39; names <= 41; names++) {
            limited("law a:", term(names, "_"), "=U;");
            limited("law a:U=", term(names, "_"), ";");
            limited("rule i x=", term(names, "_"), ";");
            limited("law a:", term(names, "x"), "=U;");
            limited("rule i x=", term(names, "x"), ";");
            worked(term(names, "_"));
        }
        Counted x = Check.with(WIDE + "law a:C _ _ U=_;");
        Check.due("_ counts on the left", x.about(0, 2), 4);
        Check.due("_ counts on the right", x.about(0, 3), 1);
    }

    /** A term of so many names, its innermost ones being these, with few ( in one another. */
    private static String term(int names, String inner) {
        if (names <= 1) {
            return inner;
        }
        if (names <= 3) {
            return "S " + atom(names - 1, inner);
        }
        int third = (names - 1) / 3;
        return "C " + atom(third, inner) + " " + atom(third, inner) + " " + atom(names - 1 - 2 * third, inner);
    }

    private static String atom(int names, String inner) {
        return names <= 1 ? inner : "(" + term(names, inner) + ")";
    }

    /** Reads a text with a term in it: it has a fault if the term has more than 40 names, at the 41st. */
    private static void limited(String ahead, String term, String behind) {
        Counted x = Check.with(WIDE);
        int place = placeOfName(term, 41);
        Check.due(ahead + term + behind, Check.read(x, ahead + term + behind),
                place < 0 ? 1 : -1000 - ahead.length() - place);
        Check.due("the kind", x.fault(), place < 0 ? 0 : 5);
    }

    private static void worked(String term) {
        Counted x = Check.with(WIDE);
        int place = placeOfName(term, 41);
        int answer = Check.work(x, term, 2000);
        Check.due("work of " + term, answer, place < 0 ? 0 : -1000 - place);
        Check.due("the kind", x.fault(), place < 0 ? 0 : 5);
    }

    /** Where the name, or _ , of this number stands in a term; -1 if it has fewer. All names have one byte. */
    private static int placeOfName(String term, int number) {
        int names = 0;
        for (int at = 0; at < term.length(); at++) {
            names += " ()".indexOf(term.charAt(at)) < 0 ? 1 : 0;
            if (names == number) {
                return at;
            }
        }
        return -1;
    }

    private static void depth() {
        Check.sentence("( are 10 deep at most in one another; 5 one too many: a ( (at it)");
        for (int deep = 9; deep <= 12; deep++) {
            deep("law a:i ", deep, "(", "x", "=x;", 1);
            deep("law a:", deep, "(", "i x", "=x;", 1);
            deep("law a:U=", deep, "(", "i x", ";", 1);
            deep("rule i x=", deep, "(", "x", ";", 1);
            deep("rule i x=i ", deep, "(i ", "x", ";", 3);
            deep("rule i ", deep, "(S ", "x", "=x;", 3);
            deep("rule i ", deep, "(S ", "U", "=U;", 3);
            Counted x = Check.with(WIDE);
            String term = Check.repeat("(", deep) + "U" + Check.repeat(")", deep);
            Check.due("work of " + term, Check.work(x, term, 0), deep > 10 ? -1010 : 0);
            Check.due("the kind", x.fault(), deep > 10 ? 5 : 0);
        }
    }

    /** So many ( in one another, each with what is opened by it; the 11th has the fault. */
    private static void deep(String ahead, int deep, String open, String inner, String behind, int step) {
        Counted x = Check.with(WIDE);
        String text = ahead + Check.repeat(open, deep) + inner + Check.repeat(")", deep) + behind;
        Check.due(text, Check.read(x, text), deep > 10 ? -1000 - ahead.length() - 10 * step : 1);
        Check.due("the kind", x.fault(), deep > 10 ? 5 : 0);
    }

    private static void depthBeside() {
        Check.sentence("( are 10 deep at most in one another: those beside one another are not");
        String ten = Check.repeat("(", 10) + "x" + Check.repeat(")", 10);
        String pattern = Check.repeat("(S ", 10) + "U" + Check.repeat(")", 10);
        Check.due("ten, and ten", Check.read(Check.with(WIDE), "law a:w " + ten + ten + "=" + ten + ";"), 1);
        Check.due("in a rule", Check.read(Check.with(WIDE), "rule w " + pattern + pattern + "=" + pattern + ";"), 1);
        Counted x = Check.with(WIDE);
        String more = "law a:C x " + ten + " (" + ten + ")=x;";
        Check.due("ten, and eleven", Check.read(x, more), -1000 - more.indexOf("(x))", more.indexOf("x)") + 12));
        Check.due("the kind", x.fault(), 5);
    }
}
