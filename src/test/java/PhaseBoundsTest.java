import java.util.function.IntSupplier;

/** Promises 6 and 7, calls that are refused, and an object's 512 calls: each sentence on both of its sides. */
public final class PhaseBoundsTest {
    private static final String SIXTY = "IF FALSE ; 1" + " + 1".repeat(14) + " ; 1" + " + 1".repeat(13);
    private static final String DEAR = "REC a b IF b < 1 ; 0 ; a ( b - SND ( ( FUN c c , FUN c c ) , 1 ) ) ; a 40";
    private static final String ROOM = "LET a FUN b ( b , b ) ; LET c FUN b a ( a b ) ; c ( c ( c 1 ) )";

    public static void main(String[] args) {
        phases();
        phaseStays();
        resetToNew();
        resetForgetsTokens();
        resetForgetsTheRun();
        refusedCallsChangeNothing();
        manyTokens();
        manyParses();
        manyInfers();
        manyRuns();
        manyTerms();
        Check.end("PhaseBoundsTest");
    }

    // ---- promise 7 --------------------------------------------------------------------------------------------

    private static void phases() {
        Check.sentence("7: 0 READING, 1 PARSED, 2 TYPED");
        TinyMl ml = new TinyMl();
        Check.same("phase of a new object", ml.phase(), 0);
        ml.token(101);
        Check.same("phase behind token", ml.phase(), 0);
        ml.parse();
        Check.same("phase behind parse", ml.phase(), 1);
        ml.infer();
        Check.same("phase behind infer", ml.phase(), 2);
        ml.run(400);
        Check.same("phase behind run", ml.phase(), 2);
        ml.reset();
        Check.same("phase behind reset", ml.phase(), 0);
    }

    private static void phaseStays() {
        Check.sentence("7: the phase stays when parse, infer or run does not answer 0");
        for (String text : new String[] {"", "1 +", "1 )", "FST ".repeat(8) + "1", "1" + " + 1".repeat(16)}) {
            TinyMl ml = Check.reading(text);
            Check.same("parse of " + text + " is 0", ml.parse() == 0, false);
            Check.same("phase behind parse of " + text, ml.phase(), 0);
        }
        for (String text : new String[] {"a", "1 + TRUE", "FUN a a a", ROOM}) {
            TinyMl ml = Check.parsed(text);
            Check.same("infer of " + text + " is 0", ml.infer() == 0, false);
            Check.same("phase behind infer of " + text, ml.phase(), 1);
        }
        for (String text : new String[] {"REC a b a b ; a 1", "REC a b 1 + a b ; a 1", DEAR}) {
            TinyMl ml = Check.typed(text);
            Check.same("run of " + text + " is 0", ml.run(400) == 0, false);
            Check.same("phase behind run of " + text, ml.phase(), 2);
        }
    }

    // ---- promise 6 --------------------------------------------------------------------------------------------

    private static TinyMl[] objects() {
        TinyMl refused = Check.reading("1 +");
        refused.parse();
        TinyMl faulty = Check.parsed("1 + TRUE");
        faulty.infer();
        TinyMl room = Check.parsed(ROOM);
        room.infer();
        TinyMl done = Check.typed("( 1 , 2 )");
        done.run(400);
        TinyMl stopped = Check.typed(DEAR);
        stopped.run(400);
        TinyMl longValue = Check.typed("LET a ( 1 , 1 ) ; LET b ( a , a ) ; LET c ( b , b ) ; LET d ( c , c ) ; "
                + "LET e ( d , d ) ; ( e , e )");
        longValue.run(400);
        return new TinyMl[] {new TinyMl(), Check.reading("1"), Check.reading(SIXTY), refused, Check.parsed("1"), faulty,
            room, Check.typed("( 1 , 2 )"), done, stopped, longValue};
    }

    private static void resetToNew() {
        Check.sentence("6: READING, without tokens, type or value");
        int[] fresh = Check.state(new TinyMl());
        for (TinyMl ml : objects()) {
            ml.reset();
            Check.same("state behind reset", Check.state(ml), fresh);
            Check.throwsMissing("typeAt behind reset", () -> ml.typeAt(0));
            Check.throwsMissing("outAt behind reset", () -> ml.outAt(0));
            Check.throwsState("infer behind reset", ml::infer);
            Check.throwsState("run behind reset", () -> ml.run(400));
            Check.same("parse behind reset", ml.parse(), 1);
            ml.reset();
            Check.same("state behind one more reset", Check.state(ml), fresh);
        }
    }

    private static void resetForgetsTokens() {
        Check.sentence("6: without tokens: there is room for 60 again");
        for (TinyMl ml : objects()) {
            ml.reset();
            Check.give(ml, Check.tokens(SIXTY));
            Check.same("token 61", ml.token(101), false);
            Check.same("parse of 60 tokens", ml.parse(), 0);
            Check.same("infer of 60 tokens", ml.infer(), 0);
            Check.same("type of 60 tokens", Check.typeWords(ml), 0);
        }
    }

    private static void resetForgetsTheRun() {
        Check.sentence("6: without type or value: the next term has its own");
        for (TinyMl ml : objects()) {
            ml.reset();
            Check.give(ml, Check.tokens("TRUE"));
            Check.same("parse of the next", ml.parse(), 0);
            Check.same("state of the next when parsed", Check.state(ml), 1, -1, -1, 0, 0, 0);
            Check.same("infer of the next", ml.infer(), 0);
            Check.same("state of the next when typed", Check.state(ml), 2, 1, -1, 0, 0, 0, 1);
            Check.same("run of the next", ml.run(1), 0);
            Check.same("state of the next when done", Check.state(ml), 2, 1, 2, 1, 0, 1, 1, 1, 1);
        }
    }

    // ---- calls that are refused -------------------------------------------------------------------------------

    private static void refused(TinyMl ml, String call, IntSupplier how, int due) {
        int[] before = Check.state(ml);
        Check.same(call + " in phase " + ml.phase(), Check.answer(how), due);
        Check.same("state behind " + call + " in phase " + ml.phase(), Check.state(ml), before);
    }

    private static void refusedCallsChangeNothing() {
        Check.sentence("2 to 5, 9, 11: a call that throws changes nothing");
        for (TinyMl ml : objects()) {
            int phase = ml.phase();
            if (phase != 0) {
                refused(ml, "token", () -> ml.token(101) ? 1 : 0, Check.STATE);
                refused(ml, "parse", ml::parse, Check.STATE);
            }
            if (phase != 1) {
                refused(ml, "infer", ml::infer, Check.STATE);
            }
            if (phase != 2) {
                refused(ml, "run", () -> ml.run(400), Check.STATE);
            }
            for (int i : new int[] {-1, 100, Integer.MAX_VALUE, Integer.MIN_VALUE}) {
                refused(ml, "typeAt " + i, () -> ml.typeAt(i), Check.MISSING);
                refused(ml, "outAt " + i, () -> ml.outAt(i), Check.MISSING);
            }
        }
        Check.sentence("2: a token that is refused is not put behind the others");
        TinyMl ml = Check.reading("1 +");
        for (int t : new int[] {30, 99, -1}) {
            Check.same("token " + t, ml.token(t), false);
        }
        Check.give(ml, Check.tokens("2"));
        Check.same("parse of 1 + 2", ml.parse(), 0);
        Check.same("infer of 1 + 2", ml.infer(), 0);
        Check.same("run of 1 + 2", ml.run(3), 0);
        Check.same("value of 1 + 2", Check.outWords(ml), 0, 3);
    }

    // ---- an object is used for at most 512 calls ---------------------------------------------------------------

    private static final String CALLS = "What it is: an object is used for at most 512 calls";

    private static void manyTokens() {
        Check.sentence(CALLS + ": tokens");
        TinyMl ml = new TinyMl();
        for (int call = 1; call <= 511; call++) {
            Check.same("token " + call, ml.token(101), call <= 60);
        }
        Check.same("parse, call 512", ml.parse(), -1);
    }

    private static void manyParses() {
        Check.sentence(CALLS + ": parses");
        TinyMl ml = new TinyMl();
        for (int call = 1; call <= 60; call++) {
            Check.same("token " + call, ml.token(call % 2 == 0 ? 14 : 101), true);
        }
        for (int call = 61; call <= 512; call++) {
            Check.same("parse, call " + call, ml.parse(), 61);
        }
    }

    private static void manyInfers() {
        String many = "REC a d d NIL NIL NIL NIL NIL 0 ; REC b d d a a a a a a a ; LET c ( b , b ) ; LET d ( c , c ) ; "
                + "LET e ( d , d ) ; LET f ( e , e ) ; f :: f f";
        manyInfers(ROOM, 4);
        manyInfers(many, 2);
    }

    private static void manyInfers(String text, int due) {
        Check.sentence(CALLS + ": infers that answer " + due);
        TinyMl ml = Check.parsed(text);
        for (int call = Check.tokens(text).length + 2; call <= 512; call++) {
            Check.same("infer, call " + call, ml.infer(), due);
        }
    }

    private static void manyRuns() {
        Check.sentence(CALLS + ": runs");
        TinyMl ml = Check.typed(DEAR);
        for (int call = Check.tokens(DEAR).length + 3; call <= 511; call++) {
            Check.same("run, call " + call, ml.run(400), 3);
        }
        Check.same("cells, call 512", ml.used(1), 100);
    }

    /** 16 times 32 calls: reset, 19 tokens, parse, infer, run, 9 that ask. */
    private static void manyTerms() {
        Check.sentence(CALLS + ": terms");
        TinyMl ml = new TinyMl();
        for (int n = 0; n < 16; n++) {
            ml.reset();
            String text = "LET a FUN b ( b , " + n + " ) ; LET c a ( a TRUE ) ; c";
            Check.same("number of tokens", Check.tokens(text).length, 19);
            Check.give(ml, Check.tokens(text));
            Check.same("parse of " + text, ml.parse(), 0);
            Check.same("infer of " + text, ml.infer(), 0);
            Check.same("run of " + text, ml.run(400), 0);
            Check.same("phase of " + text, ml.phase(), 2);
            Check.same("typeSize of " + text, ml.typeSize(), 5);
            Check.same("typeAt 2 of " + text, ml.typeAt(2), 1);
            Check.same("typeAt 4 of " + text, ml.typeAt(4), 0);
            Check.same("outSize of " + text, ml.outSize(), 8);
            Check.same("outAt of " + text, ml.outAt(7), n);
            Check.same("fuel of " + text, ml.used(0), 15);
            Check.same("cells of " + text, ml.used(1), 3);
            Check.same("nesting of " + text, ml.used(2), 4);
        }
    }
}
