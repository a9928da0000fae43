/** What the project's tests share: a tape from a text, answers against what is due, and a closing count. */
final class Check {
    static final String NUMBERS =
            "data N=Z|S N;fun add:N>N>N;rule add Z y=y;rule add (S x) y=S (add x y);";

    private static int passed = 0;
    private static int failed = 0;

    private Check() {
    }

    static void due(String what, long got, long want) {
        tell(got == want, what, String.valueOf(got), String.valueOf(want));
    }

    static void due(String what, String got, String want) {
        tell(got.equals(want), what, got, want);
    }

    private static void tell(boolean right, String what, String got, String want) {
        if (right) {
            passed++;
        } else {
            failed++;
            System.out.println(what + " answered " + got + ", due is " + want);
        }
    }

    static void finish() {
        System.out.println(passed + " answers are as due, " + failed + " are not");
        if (failed > 0 || passed == 0) {
            System.exit(1);
        }
    }

    /** Makes a text the whole tape; it has room for texts of 1000 bytes, too. */
    static void tape(EquationProofs x, String text) {
        x.end(0);
        for (int at = 0; at < text.length(); at += 20) {
            int[] numbers = new int[5];
            for (int i = 0; i < 20; i++) {
                int b = at + i < text.length() ? text.charAt(at + i) : 0;
                numbers[i / 4] = numbers[i / 4] << 8 | b & 255;
            }
            x.feed(numbers[0], numbers[1], numbers[2], numbers[3], numbers[4]);
        }
        x.end(text.length());
    }

    static int read(EquationProofs x, String text) {
        tape(x, text);
        return x.read();
    }

    static int work(EquationProofs x, String text, int steps) {
        tape(x, text);
        return x.work(steps);
    }

    /** An object that has read a text; the text has no fault. */
    static EquationProofs with(String text) {
        EquationProofs x = new EquationProofs();
        int answer = read(x, text);
        if (answer < 0) {
            due("read of " + text + " has fault " + x.fault(), answer, 0);
        }
        return x;
    }

    static String printed(EquationProofs x) {
        StringBuilder text = new StringBuilder();
        for (int i = 0; x.printed(i) >= 0; i++) {
            text.append((char) x.printed(i));
        }
        return text.toString();
    }

    /** Both sides of a goal, as they are printed. */
    static String goal(EquationProofs x, int k) {
        return side(x, x.show(k, 0)) + " = " + side(x, x.show(k, 1));
    }

    static String hypothesis(EquationProofs x, int k) {
        return side(x, x.showHypothesis(k, 0)) + " = " + side(x, x.showHypothesis(k, 1));
    }

    private static String side(EquationProofs x, int answer) {
        String text = printed(x);
        return answer == text.length() ? text : "answer " + answer;
    }

    static String repeat(String text, int times) {
        StringBuilder all = new StringBuilder();
        for (int i = 0; i < times; i++) {
            all.append(text);
        }
        return all.toString();
    }
}
