import java.util.Random;

/** Promises 6 and 7: reset and phase; and which call throws in which phase. */
public final class StateTest {
    public static void main(String[] args) {
        phases();
        resetFromEach();
        nothingStays();
        manyTermsInOneObject();
        anyCallInAnyState();
        Check.end("StateTest");
    }

    private static void phases() {
        TinyMl ml = new TinyMl();
        Check.same("phase of a new object", ml.phase(), 0);
        ml.token(101);
        Check.same("phase behind a token", ml.phase(), 0);
        ml.parse();
        Check.same("phase behind parse", ml.phase(), 1);
        ml.infer();
        Check.same("phase behind infer", ml.phase(), 2);
        ml.run(0);
        Check.same("phase behind run", ml.phase(), 2);
        ml.reset();
        Check.same("phase behind reset", ml.phase(), 0);
        Check.answer(ml::infer);
        Check.same("phase behind an infer that throws", ml.phase(), 0);
    }

    private static void resetFromEach() {
        empty(new TinyMl(), "new");
        empty(Check.reading("1 +"), "reading");
        TinyMl refused = Check.reading("1 +");
        refused.parse();
        empty(refused, "refused");
        empty(Check.parsed("1"), "parsed");
        empty(Check.typed("1"), "typed");
        TinyMl done = Check.typed("( 1 , 2 )");
        done.run(400);
        empty(done, "done");
    }

    private static void empty(TinyMl ml, String what) {
        ml.reset();
        Check.same("phase of " + what + " behind reset", ml.phase(), 0);
        Check.same("typeSize of " + what + " behind reset", ml.typeSize(), -1);
        Check.same("outSize of " + what + " behind reset", ml.outSize(), -1);
        Check.same("typeAt of " + what + " behind reset", Check.answer(() -> ml.typeAt(0)), Check.MISSING);
        Check.same("outAt of " + what + " behind reset", Check.answer(() -> ml.outAt(0)), Check.MISSING);
        for (int n = 0; n < 3; n++) {
            Check.same("used " + n + " of " + what + " behind reset", ml.used(n), 0);
        }
        Check.same("parse of " + what + " behind reset", ml.parse(), 1);
    }

    private static void nothingStays() {
        TinyMl ml = Check.typed("( 1 , 2 )");
        ml.run(400);
        ml.reset();
        Check.give(ml, Check.tokens("7"));
        Check.same("parse of the next", ml.parse(), 0);
        Check.same("outSize of the next when parsed", ml.outSize(), -1);
        Check.same("infer of the next", ml.infer(), 0);
        Check.same("outSize of the next before a run", ml.outSize(), -1);
        Check.same("outAt of the next before a run", Check.answer(() -> ml.outAt(0)), Check.MISSING);
        for (int what = 0; what < 3; what++) {
            Check.same("used of the next before a run", ml.used(what), 0);
        }
        Check.same("type of the next", Check.typeWords(ml), 0);
        Check.same("run of the next", ml.run(1), 0);
        Check.same("value of the next", Check.outWords(ml), 0, 7);
    }

    private static void manyTermsInOneObject() {
        TinyMl ml = new TinyMl();
        for (int n = 0; n < 40; n++) {
            ml.reset();
            Check.give(ml, Check.tokens("LET a FUN b b + " + n + " ; a " + n));
            Check.same("parse " + n, ml.parse(), 0);
            Check.same("infer " + n, ml.infer(), 0);
            Check.same("run " + n, ml.run(400), 0);
            Check.same("value " + n, Check.outWords(ml), 0, 2 * n);
        }
    }

    private static void anyCallInAnyState() {
        Random random = new Random(7);
        Maker maker = new Maker(7);
        for (int n = 0; n < 300; n++) {
            TinyMl ml = new TinyMl();
            int[] row = maker.next();
            int next = 0;
            for (int calls = 0; calls < 512; calls++) {
                int t = next < row.length && random.nextInt(50) > 0 ? row[next] : random.nextInt(140) - 10;
                int which = random.nextInt(next < row.length ? 60 : 20);
                next = which > 10 ? next + 1 : which == 0 ? 0 : next;
                oneCall(ml, which, t, random.nextInt(500) - 20);
                if (which == 0) {
                    row = maker.next();
                }
            }
        }
    }

    private static void oneCall(TinyMl ml, int which, int t, int n) {
        int phase = ml.phase();
        switch (which) {
            case 0:
                ml.reset();
                break;
            case 1:
                thrown("parse", Check.answer(ml::parse), phase != 0, Check.STATE);
                break;
            case 2:
            case 3:
                thrown("infer", Check.answer(ml::infer), phase != 1, Check.STATE);
                break;
            case 4:
            case 5:
                thrown("run", Check.answer(() -> ml.run(n)), phase != 2, Check.STATE);
                break;
            case 6:
                thrown("typeAt", Check.answer(() -> ml.typeAt(n)), n < 0 || n >= ml.typeSize(), Check.MISSING);
                break;
            case 7:
                thrown("outAt", Check.answer(() -> ml.outAt(n)), n < 0 || n >= ml.outSize(), Check.MISSING);
                break;
            case 8:
                Check.same("used of no run", phase != 2 && ml.used(t & 1) != 0 ? 1 : 0, 0);
                break;
            default:
                thrown("token", Check.answer(() -> ml.token(t) ? 1 : 0), phase != 0, Check.STATE);
        }
    }

    private static void thrown(String call, int answer, boolean due, int exception) {
        Check.same(call + " threw what is due", answer == exception ? 1 : 0, due ? 1 : 0);
        Check.same(call + " threw nothing else", answer == Check.OTHER ? 1 : 0, 0);
    }
}
