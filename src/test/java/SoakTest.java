import java.util.Random;

/**
 * Many calls with wild arguments on many objects, from a fixed seed: a call throws only what the document names,
 * and answers only what it names; and no law that is proved is found to be false by test().
 */
public final class SoakTest {
    private static final String[] THEORIES = {
        Check.NUMBERS + "fun mul:N>N>N;rule mul Z y=Z;rule mul (S x) y=add y (mul x y);law a:add x Z=x;"
            + "law b:add x (S y)=S (add x y);law c:add x y=add y x;law d:mul x Z=Z;law e:mul x y=mul y x;",
        "data B=T|F;data L=E|C B L;fun app:L>L>L;rule app E y=y;rule app (C x y) z=C x (app y z);fun rev:L>L;"
            + "rule rev E=E;rule rev (C x y)=app (rev y) (C x E);law a:app (app u v) w=app u (app v w);"
            + "law b:app u E=u;law c:rev (app u v)=app (rev v) (rev u);law d:rev (rev u)=u;fun in:L;rule in=C T in;"
            + "law e:app in u=in;",
        "data Q=U|C Q Q Q;fun m:Q>Q;rule m U=U;rule m (C x y z)=C (m z) (m y) (m x);law a:m (m x)=x;"
            + "fun big:Q>Q;rule big x=big (C x x x);law b:big x=big (m x);law c:m (big x)=_;fun w:Q>Q>Q;"
            + "law d:w (m x) y=w y (m x);law e:m (m (m x))=m x;",
        "data K=A1|A2|A3|A4|A5|A6|A7|A8|A9|B1|B2 K K|B3 K;fun k:K>K>K;rule k A1 x=x;rule k (B2 x y) z=k y x;"
            + "rule k x (B3 y)=k y _;law a:k x y=k y x;law b:k (k x x) x=x;law c:k A1 x=x;law d:k x A1=k x x;",
    };
    private static final String[] PIECES = {"data ", "fun ", "rule ", "law ", "N", "Z", "S ", "x", "y ", "add ", "_",
        "(", ")", "=", "|", ":", ";", ">", " ", "\n", "Abcdefg", "f", "T", "5", "."};

    private static Counted x = new Counted();
    private static int strange = 0;

    public static void main(String[] args) {
        Random random = new Random(20261115);
        for (int run = 0; run < 500; run++) {
            x = new Counted();
            if (run % 8 != 7) {
                Check.read(x, THEORIES[run % THEORIES.length]);
            }
            // The rest is for the calls of the last turn, and for sound().
            while (x.calls() < Counted.MOST_CALLS - 140) {
                oneCall(random);
            }
            sound(run);
        }
        Check.due("strange answers", strange, 0);
        Check.finish();
    }

    private static void sound(int run) {
        for (int law = 0; law < x.count(4); law++) {
            int proved = x.about(law, 0);
            for (int size = 1; size <= 4 && proved > 0; size++) {
                int answer = x.test(law, size, proved == 2);
                Check.due("run " + run + ": test of proved law " + law, answer == 1 ? 1 : 0, 0);
            }
        }
    }

    private static int wild(Random random, int most) {
        int kind = random.nextInt(40);
        if (kind == 0) {
            return random.nextInt();
        }
        if (kind == 1) {
            return random.nextBoolean() ? Integer.MAX_VALUE : Integer.MIN_VALUE;
        }
        return kind == 2 ? -1 : random.nextInt(most + 1);
    }

    private static int place(Random random) {
        int place = 0;
        for (int depth = random.nextInt(4); depth > 0; depth--) {
            place = place * 10 + 1 + random.nextInt(3);
        }
        return random.nextInt(30) == 0 ? wild(random, 999) : place;
    }

    private static void oneCall(Random random) {
        boolean yes = random.nextBoolean();
        int side = random.nextInt(40) == 0 ? wild(random, 3) : random.nextInt(2);
        switch (random.nextInt(22)) {
            case 0:
                tape(random);
                break;
            case 1:
                looks(random);
                break;
            case 2:
                looked(x.test(wild(random, 5), 1 + random.nextInt(3), yes), 2);
                break;
            case 3:
            case 4:
                looked(x.begin(wild(random, 5), yes), 1);
                break;
            case 5:
            case 6:
            case 7:
                row(x.unfold(side, place(random)));
                break;
            case 8:
            case 9:
                row(x.law(wild(random, 4), yes, side, place(random)));
                break;
            case 10:
            case 11:
            case 12:
                row(x.hypothesis(wild(random, 4), yes, side, place(random)));
                break;
            case 13:
            case 14:
                row(x.induction(wild(random, 12)));
                break;
            case 15:
            case 16:
                row(x.cases(side, place(random)));
                break;
            case 17:
                row(x.same());
                break;
            case 18:
                row(x.parts());
                break;
            case 19:
                looked(x.search(wild(random, 500)), 500);
                break;
            default:
                shows(random, side);
                break;
        }
    }

    private static void tape(Random random) {
        StringBuilder text = new StringBuilder();
        for (int n = random.nextInt(30); n > 0; n--) {
            text.append(PIECES[random.nextInt(PIECES.length)]);
        }
        try {
            if (random.nextInt(4) == 0) {
                x.feed(random.nextInt(), random.nextInt(), random.nextInt(), random.nextInt(), random.nextInt());
                x.end(wild(random, 1000));
            } else {
                Check.tape(x, text.toString());
            }
        } catch (IllegalStateException | IllegalArgumentException e) {
            x.end(0);
        }
        if (random.nextInt(4) != 0) {
            int answer = random.nextBoolean() ? x.work(wild(random, 2000)) : x.read();
            strange += answer > 1000 || answer < -2000 ? 1 : 0;
        }
    }

    private static void looks(Random random) {
        looked(x.count(wild(random, 8)), 10000);
        looked(x.about(wild(random, 5), wild(random, 4)), 40);
        looked(x.fault(), 5);
        looked(x.steps(), 2000);
    }

    private static void shows(Random random, int side) {
        looked(x.show(wild(random, 3), side), 1080);
        looked(x.showHypothesis(wild(random, 3), side), 1080);
        looked(x.showLaw(wild(random, 5), side), 1080);
        looked(x.told(wild(random, 3)), 1080);
        int b = x.printed(wild(random, 20));
        strange += b < -1 || b > 255 ? 1 : 0;
    }

    private static void row(int answer) {
        looked(answer, 12);
    }

    private static void looked(int answer, int most) {
        boolean refusal = answer <= EquationProofs.UNKNOWN && answer >= EquationProofs.ROOM;
        strange += answer > most || answer < 0 && !refusal ? 1 : 0;
    }
}
