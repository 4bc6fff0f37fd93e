/** Promises 1 and 2: a new object and its tokens. */
public final class ReadingTest {
    public static void main(String[] args) {
        newObject();
        whatIsAToken();
        mostTokens();
        onlyWhileReading();
        Check.end("ReadingTest");
    }

    private static void newObject() {
        TinyMl ml = new TinyMl();
        Check.same("phase of a new object", ml.phase(), 0);
        Check.same("typeSize of a new object", ml.typeSize(), -1);
        Check.same("outSize of a new object", ml.outSize(), -1);
        for (int what = 0; what < 3; what++) {
            Check.same("used of a new object", ml.used(what), 0);
        }
        Check.same("infer of a new object", Check.answer(ml::infer), Check.STATE);
        Check.same("run of a new object", Check.answer(() -> ml.run(1)), Check.STATE);
        Check.same("parse of a new object, which has no tokens", ml.parse(), 1);
    }

    private static void whatIsAToken() {
        int[] none = {-1, 30, 31, 50, 99, -100, Integer.MIN_VALUE};
        int[] some = {0, 1, 19, 20, 29, 100, 101, 1000, Integer.MAX_VALUE};
        TinyMl ml = new TinyMl();
        for (int t : none) {
            Check.same("token " + t, ml.token(t) ? 1 : 0, 0);
        }
        Check.same("parse after tokens that are none", ml.parse(), 1);
        for (int t : some) {
            Check.same("token " + t, ml.token(t) ? 1 : 0, 1);
        }
        for (int t = 0; t < 30; t++) {
            Check.same("token " + t, ml.token(t) ? 1 : 0, 1);
        }
    }

    private static void mostTokens() {
        TinyMl ml = new TinyMl();
        for (int i = 0; i < 60; i++) {
            Check.same("token " + i, ml.token(i % 2 == 0 ? 101 : 14) ? 1 : 0, 1);
        }
        Check.same("a 61st token", ml.token(101) ? 1 : 0, 0);
        Check.same("a 61st token that is none", ml.token(77) ? 1 : 0, 0);
        Check.same("what is missing lies behind 60 tokens", ml.parse(), 61);
    }

    private static void onlyWhileReading() {
        TinyMl parsed = Check.parsed("1");
        Check.same("token when parsed", Check.answer(() -> parsed.token(14) ? 1 : 0), Check.STATE);
        Check.same("no token when parsed", Check.answer(() -> parsed.token(77) ? 1 : 0), Check.STATE);
        TinyMl typed = Check.typed("1");
        Check.same("token when typed", Check.answer(() -> typed.token(14) ? 1 : 0), Check.STATE);
        TinyMl refused = Check.reading("1 +");
        Check.same("parse of 1 +", refused.parse(), 3);
        Check.same("token after a refused parse", refused.token(102) ? 1 : 0, 1);
        Check.same("parse of 1 + 2", refused.parse(), 0);
    }
}
