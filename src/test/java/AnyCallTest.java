import java.util.Random;

/** Any call in any state, 512 for each object: which throws, and that none throws anything else. */
public final class AnyCallTest {
    public static void main(String[] args) {
        anyCallInAnyState();
        Check.end("AnyCallTest");
    }

    private static void anyCallInAnyState() {
        Random random = new Random(7);
        Maker maker = new Maker(7);
        for (int n = 0; n < 300; n++) {
            TinyMl ml = new TinyMl();
            int[] row = maker.next();
            int next = 0;
            for (int calls = 0; calls < 512; calls++) {
                int t = next < row.length && random.nextInt(50) > 0 ? row[next] : random.nextInt(140) - 10;
                int which = random.nextInt(next < row.length ? 60 : 20);
                next = which > 10 ? next + 1 : which == 0 ? 0 : next;
                oneCall(ml, which, t, random.nextInt(500) - 20);
                if (which == 0) {
                    row = maker.next();
                }
            }
        }
    }

    private static void oneCall(TinyMl ml, int which, int t, int n) {
        int phase = ml.phase();
        switch (which) {
            case 0:
                ml.reset();
                break;
            case 1:
                thrown("parse", Check.answer(ml::parse), phase != 0, Check.STATE);
                break;
            case 2:
            case 3:
                thrown("infer", Check.answer(ml::infer), phase != 1, Check.STATE);
                break;
            case 4:
            case 5:
                thrown("run", Check.answer(() -> ml.run(n)), phase != 2, Check.STATE);
                break;
            case 6:
                thrown("typeAt", Check.answer(() -> ml.typeAt(n)), n < 0 || n >= ml.typeSize(), Check.MISSING);
                break;
            case 7:
                thrown("outAt", Check.answer(() -> ml.outAt(n)), n < 0 || n >= ml.outSize(), Check.MISSING);
                break;
            case 8:
                Check.same("used of no run", phase != 2 && ml.used(t & 1) != 0 ? 1 : 0, 0);
                break;
            default:
                thrown("token", Check.answer(() -> ml.token(t) ? 1 : 0), phase != 0, Check.STATE);
        }
    }

    private static void thrown(String call, int answer, boolean due, int exception) {
        Check.same(call + " threw what is due", answer == exception ? 1 : 0, due ? 1 : 0);
        Check.same(call + " threw nothing else", answer == Check.OTHER ? 1 : 0, 0);
    }
}
