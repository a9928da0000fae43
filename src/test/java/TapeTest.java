/** Promises 1 to 3: a new object, feed, end. */
public final class TapeTest {
    public static void main(String[] args) {
        newObject();
        feeding();
        cutting();
        Check.finish();
    }

    private static void newObject() {
        Counted x = new Counted();
        for (int what = 0; what <= 7; what++) {
            Check.due("new: count(" + what + ")", x.count(what), 0);
        }
        Check.due("new: fault()", x.fault(), 0);
        Check.due("new: steps()", x.steps(), 0);
        Check.due("new: printed(0)", x.printed(0), EquationProofs.NONE);
        Check.due("new: about(0, 0)", x.about(0, 0), EquationProofs.UNKNOWN);
        Check.due("new: told(0)", x.told(0), EquationProofs.STATE);
        Check.due("new: begin(0, true)", x.begin(0, true), EquationProofs.UNKNOWN);
        Check.due("new: same()", x.same(), EquationProofs.STATE);
        Check.due("new: parts()", x.parts(), EquationProofs.STATE);
        Check.due("new: induction(0)", x.induction(0), EquationProofs.STATE);
        Check.due("new: search(1)", x.search(1), EquationProofs.STATE);
        Check.due("new: show(0, 0)", x.show(0, 0), EquationProofs.STATE);
        Check.due("new: showHypothesis(0, 0)", x.showHypothesis(0, 0), EquationProofs.STATE);
        Check.due("new: end(1)", end(x, 1), 1);
        Check.due("new: end(0)", end(x, 0), 0);
        Check.due("new: read() of nothing", x.read(), 0);
        Check.due("new: work(0) of nothing", x.work(0), -1000);
        Check.due("new: fault() of nothing", x.fault(), 2);
    }

    private static void feeding() {
        Counted x = new Counted();
        // "data A=B;data C=D;  ", the highest byte of each number first
        Check.due("feed", x.feed(0x64617461, 0x20413d42, 0x3b646174, 0x6120433d, 0x443b2020), 20);
        Check.due("read of what was fed", x.read(), 2);
        Check.due("types", x.count(0), 2);
        Check.due("feed of bytes above 127", x.feed(-1, -1, -1, -1, -1), 20);
        Check.due("read of byte 255", x.read(), -1000);
        Check.due("kind of byte 255", x.fault(), 1);
        for (int n = 1; n <= 50; n++) {
            Check.due("feed number " + n, feed(x), 20 * n);
        }
        Check.due("feed beyond 1000", feed(x), -1);
        Check.due("nothing came", end(x, 1001), 1);
        Check.due("nothing went", end(x, 1000), 0);
        x.end(981);
        Check.due("feed beyond 1000 by one", feed(x), -1);
        x.end(980);
        Check.due("feed up to 1000", feed(x), 1000);
        Check.due("blanks are no decl", x.read(), 0);
        Check.due("read has used the tape up", feed(x), 20);
        x.work(1);
        Check.due("work has used the tape up", feed(x), 20);
        x.work(-1);
        Check.due("work that is refused has used the tape up", feed(x), 20);
        x.end(0);
        Check.tape(x, "data");
        Check.due("fault at the end", x.read(), -1004);
        Check.due("read with a fault has used the tape up", feed(x), 20);
    }

    private static void cutting() {
        Counted x = new Counted();
        x.feed(0x64617461, 0x20413d42, 0x3b646174, 0x6120433d, 0x443b2020);
        Check.due("end(-1)", end(x, -1), 1);
        Check.due("end(21)", end(x, 21), 1);
        Check.due("end(int max)", end(x, Integer.MAX_VALUE), 1);
        Check.due("end(int min)", end(x, Integer.MIN_VALUE), 1);
        Check.due("end(20)", end(x, 20), 0);
        Check.due("end(9)", end(x, 9), 0);
        Check.due("end(10) behind end(9)", end(x, 10), 1);
        Check.due("read of the first nine bytes", x.read(), 1);
        Check.due("types of the first nine bytes", x.count(0), 1);
    }

    private static int end(Counted x, int n) {
        try {
            x.end(n);
            return 0;
        } catch (IllegalArgumentException e) {
            return 1;
        }
    }

    private static int feed(Counted x) {
        try {
            return x.feed(0x20202020, 0x20202020, 0x20200a20, 0x20202020, 0x20202020);
        } catch (IllegalStateException e) {
            return -1;
        }
    }
}
