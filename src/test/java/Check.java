/** What the project's tests share: a tape from a text, answers against what is due, and a closing count. */
final class Check {
    static final String NUMBERS =
            "data N=Z|S N;fun add:N>N>N;rule add Z y=y;rule add (S x) y=S (add x y);";

    private static String sentence = "";
    private static int passed = 0;
    private static int failed = 0;

    private Check() {
    }

    /** The document's sentence that the next answers are about. */
    static void sentence(String text) {
        sentence = text + ": ";
    }

    static void due(String what, long got, long want) {
        tell(got == want, what, String.valueOf(got), String.valueOf(want));
    }

    static void due(String what, String got, String want) {
        tell(got.equals(want), what, got, want);
    }

    private static void tell(boolean right, String what, String got, String want) {
        if (right) {
            passed++;
        } else {
            failed++;
            System.out.println(sentence + what + " answered " + got + ", due is " + want);
        }
    }

    static void finish() {
        System.out.println(passed + " answers are as due, " + failed + " are not");
        if (failed > 0 || passed == 0) {
            System.exit(1);
        }
    }

    /** Makes a text the whole tape; it has room for texts of 1000 bytes, too. */
    static void tape(Counted x, String text) {
        x.end(0);
        for (int at = 0; at < text.length(); at += 20) {
            int[] numbers = new int[5];
            for (int i = 0; i < 20; i++) {
                int b = at + i < text.length() ? text.charAt(at + i) : 0;
                numbers[i / 4] = numbers[i / 4] << 8 | b & 255;
            }
            x.feed(numbers[0], numbers[1], numbers[2], numbers[3], numbers[4]);
        }
        x.end(text.length());
    }

    static int read(Counted x, String text) {
        tape(x, text);
        return x.read();
    }

    static int work(Counted x, String text, int steps) {
        tape(x, text);
        return x.work(steps);
    }

    /** An object that has read a text; the text has no fault. */
    static Counted with(String text) {
        Counted x = new Counted();
        int answer = read(x, text);
        if (answer < 0) {
            due("read of " + text + " has fault " + x.fault(), answer, 0);
        }
        return x;
    }

    static String printed(Counted x) {
        StringBuilder text = new StringBuilder();
        for (int b = x.printed(0); b >= 0; b = x.printed(text.length())) {
            text.append((char) b);
        }
        return text.toString();
    }

    /** Both sides of a goal, as they are printed. */
    static String goal(Counted x, int k) {
        return side(x, x.show(k, 0)) + " = " + side(x, x.show(k, 1));
    }

    static String hypothesis(Counted x, int k) {
        return side(x, x.showHypothesis(k, 0)) + " = " + side(x, x.showHypothesis(k, 1));
    }

    private static String side(Counted x, int answer) {
        String text = printed(x);
        return answer == text.length() ? text : "answer " + answer;
    }

    static String repeat(String text, int times) {
        StringBuilder all = new StringBuilder();
        for (int i = 0; i < times; i++) {
            all.append(text);
        }
        return all.toString();
    }

    /** An atom of so many names U, E (one argument) and C (three), with few ( in one another. */
    static String atom(int names) {
        if (names <= 1) {
            return "U";
        }
        if (names <= 3) {
            return "(E " + atom(names - 1) + ")";
        }
        int third = (names - 1) / 3;
        return "(C " + atom(third) + " " + atom(third) + " " + atom(names - 1 - 2 * third) + ")";
    }
}
