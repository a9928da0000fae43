/** The boundaries of the tape and its tokens: promises 2 to 4, and the sentences on tokens under "Terms". */
public final class EdgeTokensTest {
    private static final int TAPE = 1000;

    public static void main(String[] args) {
        tapeIsFull();
        tapeIsReadWhole();
        tapeIsUsedUp();
        tapeIsCut();
        bytesOfNumbers();
        firstBytes();
        laterBytes();
        namesOfSixBytes();
        wordsAreNoNames();
        blanks();
        Check.finish();
    }

    private static void tapeIsFull() {
        Check.sentence("The tape has at most 1000 bytes; IllegalStateException when there would be more than 1000");
        for (int length : new int[] {0, 1, 979, 980}) {
            Counted x = tapeOf(length);
            Check.due("feed behind " + length, feed(x), length + 20);
        }
        for (int length : new int[] {981, 999, 1000}) {
            Counted x = tapeOf(length);
            Check.due("feed behind " + length, feed(x), -1);
            Check.due("and again", feed(x), -1);
            Check.due("no byte has come behind " + length, end(x, length + 1), 1);
            Check.due("none has gone of " + length, end(x, length), 0);
            Check.due("what was fed is read", x.read(), 0);
            Check.due("then there is room", feed(x), 20);
        }
    }

    private static void tapeIsReadWhole() {
        Check.sentence("The tape has at most 1000 bytes; the end: how many bytes there are");
        String law = "law a:k=k;";
        String base = "data N=Z;fun k:N;";
        for (int length = TAPE - 1; length <= TAPE; length++) {
            String text = base + Check.repeat(" ", length - base.length() - law.length()) + law;
            Check.due("a text of " + length, Check.read(new Counted(), text), 3);
            Check.due("without its last byte", Check.read(new Counted(), text.substring(0, length - 1)), -999 - length);
        }
        faultOf(Check.repeat(" ", TAPE - 1) + ";", -1999, 2);
        faultOf(Check.repeat(" ", TAPE - 4) + "data", -2000, 2);
        faultOf(Check.repeat(" ", TAPE - 5) + "data", -1999, 2);
        faultOf(Check.repeat(" ", TAPE - 7) + "abcdefg", -1993, 1);
        Counted x = Check.with(base);
        Check.due("a term of 1000 bytes", Check.work(x, Check.repeat("\n", TAPE - 1) + "Z", 0), 0);
        Check.due("a term that does not come", Check.work(x, Check.repeat(" ", TAPE), 0), -2000);
        Check.due("its kind", x.fault(), 2);
    }

    private static void tapeIsUsedUp() {
        Check.sentence("what reads it uses it up");
        Counted x = Check.with("data N=Z;");
        Check.due("behind a text", feed(x), 20);
        Check.due("of blanks", x.read(), 0);
        Check.due("behind blanks", feed(x), 20);
        Check.due("a fault", Check.read(x, "data"), -1004);
        Check.due("behind a fault", feed(x), 20);
        Check.due("a term", Check.work(x, "Z", 0), 0);
        Check.due("behind a term", feed(x), 20);
        Check.due("a term's fault", Check.work(x, "Z Z", 0), -1002);
        Check.due("behind a term's fault", feed(x), 20);
        Check.due("OUTSIDE", Check.work(x, "Z", -1), EquationProofs.OUTSIDE);
        Check.due("behind OUTSIDE", feed(x), 20);
        Check.due("OUTSIDE, above", Check.work(x, "Z", 2001), EquationProofs.OUTSIDE);
        Check.due("nothing is left", end(x, 1), 1);
        Check.due("an empty tape is a text", x.read(), 0);
        Check.due("and no term", x.work(0), -1000);
    }

    private static void tapeIsCut() {
        Check.sentence("IllegalArgumentException: n is below 0, or more than it has");
        for (int length : new int[] {0, 1, 20, 999, 1000}) {
            int[] wrong = {-1, Integer.MIN_VALUE, length + 1, length + 20, 1001, Integer.MAX_VALUE};
            for (int n : wrong) {
                Counted x = tapeOf(length);
                Check.due("end(" + n + ") of " + length, end(x, n), 1);
                Check.due("nothing is cut of " + length, end(x, length), 0);
            }
            Counted x = tapeOf(length);
            Check.due("end(" + length + ") of " + length, end(x, length), 0);
            Check.due("end(0) of " + length, end(x, 0), 0);
            Check.due("end(1) of nothing", end(x, 1), 1);
        }
        Counted x = new Counted();
        Check.tape(x, "data N=Z|S N;data");
        x.end(13);
        Check.due("cut behind 13 bytes", x.read(), 1);
        Check.tape(x, "data M=Y;data L=X;");
        x.end(9);
        x.feed(0x64617461, 0x204c3d58, 0x3b202020, 0x20202020, 0x20202020);
        Check.due("fed behind the cut", x.read(), 2);
        Check.due("types", x.count(0), 3);
    }

    private static void bytesOfNumbers() {
        Check.sentence("Twenty bytes come behind the tape, each number's highest one first");
        for (int at = 0; at < 20; at++) {
            for (int b : new int[] {';', 127, 128, 255}) {
                int[] numbers = {0x20202020, 0x20202020, 0x20202020, 0x20202020, 0x20202020};
                int shift = 24 - 8 * (at % 4);
                numbers[at / 4] = numbers[at / 4] & ~(255 << shift) | b << shift;
                Counted x = new Counted();
                Check.due("feed", x.feed(numbers[0], numbers[1], numbers[2], numbers[3], numbers[4]), 20);
                Check.due("byte " + b + " at " + at, x.read(), -1000 - at);
                Check.due("its kind", x.fault(), b == ';' ? 2 : 1);
            }
        }
    }

    private static void firstBytes() {
        Check.sentence("TOKENS: a name's first byte is a letter; = | : ; > ( ) _ ; 1 no token");
        for (int b = 0; b < 256; b++) {
            Counted x = new Counted();
            Check.tape(x, String.valueOf((char) b));
            boolean blank = b == 32 || b == 10;
            boolean token = b >= 'a' && b <= 'z' || b >= 'A' && b <= 'Z' || "=|:;>()_".indexOf(b) >= 0;
            Check.due("text of byte " + b, x.read(), blank ? 0 : -1000);
            Check.due("its kind", x.fault(), blank ? 0 : token ? 2 : 1);
        }
    }

    private static void laterBytes() {
        Check.sentence("TOKENS: names are letters or digits behind their first letter");
        for (int b = 0; b < 256; b++) {
            boolean letter = b >= 'a' && b <= 'z' || b >= 'A' && b <= 'Z';
            boolean name = letter || b >= '0' && b <= '9';
            boolean blank = b == 32 || b == 10;
            boolean token = "=|:;>()_".indexOf(b) >= 0 || blank;
            Counted x = new Counted();
            int answer = Check.read(x, "data N" + (char) b + "=Z;");
            int want = name || blank ? 1 : b == '=' ? -1007 : -1006;
            Check.due("data N with byte " + b, answer, want);
            Check.due("its kind", x.fault(), want == 1 ? 0 : token ? 2 : 1);
            x = Check.with("data N=Z;");
            answer = Check.read(x, "fun f" + (char) b + ":N;");
            want = name || blank ? 1 : b == ':' ? -1006 : -1005;
            Check.due("fun f with byte " + b, answer, want);
            Check.due("its kind", x.fault(), want == 1 ? 0 : token ? 2 : 1);
        }
    }

    private static void namesOfSixBytes() {
        Check.sentence("names have 6 bytes at most; 1 no token (a name that is too long, too)");
        for (int length = 1; length <= 9; length++) {
            String rest = "b2C4e6g8i".substring(1, length);
            named(length, "data A" + rest + "=Z;", 5);
            named(length, "data N=A" + rest + ";", 7);
            named(length, "data N=Z;fun a" + rest + ":N;", 13);
            named(length, "data N=Z;law a" + rest + ":Z=Z;", 13);
            named(length, "data N=Z;fun f:N>N;rule f a" + rest + "=a" + rest + ";", 26);
            named(length, "data N=Z;fun f:N>N;law l:f a" + rest + "=Z;", 27);
        }
        Check.due("two names of six bytes", Check.read(new Counted(), "data Abcdef=Z;data Abcdeg=Y;"), 2);
        Counted x = Check.with("data Abcdef=Ghijkl;");
        Check.due("a name that is too long where none can come", Check.read(x, "abcdefg"), -1000);
        Check.due("kind 1", x.fault(), 1);
        Check.due("six bytes are printed", Check.work(x, "Ghijkl", 0), 0);
        Check.due("all of them", Check.printed(x), "Ghijkl");
    }

    private static void named(int length, String text, int place) {
        Counted x = new Counted();
        int answer = Check.read(x, text);
        Check.due("read of " + text, answer < 0 ? answer : 0, length <= 6 ? 0 : -1000 - place);
        Check.due("its kind", x.fault(), length <= 6 ? 0 : 1);
    }

    private static void wordsAreNoNames() {
        Check.sentence("These words are no names: data fun rule law");
        String base = "data N=Z;fun f:N>N;";
        for (String word : new String[] {"data", "fun", "rule", "law"}) {
            wordFault(base, "fun " + word + ":N;", 4);
            wordFault(base, "law " + word + ":Z=Z;", 4);
            wordFault(base, "rule " + word + "=Z;", 5);
            wordFault(base, "rule f " + word + "=Z;", 7);
            wordFault(base, "rule f x=" + word + ";", 9);
            wordFault(base, "law a:f " + word + "=Z;", 8);
            wordFault(base, "data " + word + "=Z;", 5);
            Counted x = Check.with(base);
            Check.due("work of " + word, Check.work(x, word, 1), -1000);
            Check.due("its kind", x.fault(), 2);
        }
        for (String name : new String[] {"dat", "datas", "fu", "fun0", "ful", "rul", "rules", "la", "lawL", "rUle"}) {
            Counted x = Check.with(base);
            Check.due("function " + name, Check.read(x, "fun " + name + ":N;rule " + name + "=Z;"), 2);
            Check.due("law " + name, Check.read(x, "law " + name + ":" + name + "=Z;"), 1);
        }
        Check.due("great words are names", Check.read(new Counted(), "data Data=Fun|Rule Data|Law;"), 1);
    }

    private static void wordFault(String base, String text, int place) {
        Counted x = Check.with(base);
        Check.due("read of " + text, Check.read(x, text), -1000 - place);
        Check.due("its kind", x.fault(), 2);
    }

    private static void blanks() {
        Check.sentence("TOKENS, between BLANKS (32, 10; none or more)");
        String none = "data N=Z|S N;fun f:N>N;rule f(S x)=S(f x);law a:f(S x)=S(f x);";
        Check.due("none", Check.read(new Counted(), none), 4);
        Check.due("one more round each sign", Check.read(new Counted(), none.replaceAll("([=|:;>()])", " $1\n")), 4);
        Check.due("many", Check.read(new Counted(), none.replaceAll("([=|:;>() ])", "\n\n$1  ")), 4);
        Check.due("none between a word and a name", Check.read(new Counted(), "dataN=Z;"), -1000);
        for (int b : new int[] {9, 11, 13, 31, 33, 0, 160}) {
            Counted x = new Counted();
            Check.due("byte " + b + " is none", Check.read(x, " " + (char) b + "data N=Z;"), -1001);
            Check.due("its kind", x.fault(), 1);
        }
    }

    private static void faultOf(String text, int answer, int kind) {
        Counted x = new Counted();
        Check.due("read of " + text.trim(), Check.read(x, text), answer);
        Check.due("its kind", x.fault(), kind);
    }

    private static Counted tapeOf(int length) {
        Counted x = new Counted();
        for (int fed = 0; fed < length; fed += 20) {
            feed(x);
        }
        x.end(length);
        return x;
    }

    private static int feed(Counted x) {
        try {
            return x.feed(0x20202020, 0x20202020, 0x200a2020, 0x20202020, 0x20202020);
        } catch (IllegalStateException e) {
            return -1;
        }
    }

    private static int end(Counted x, int n) {
        try {
            x.end(n);
            return 0;
        } catch (IllegalArgumentException e) {
            return 1;
        }
    }
}
