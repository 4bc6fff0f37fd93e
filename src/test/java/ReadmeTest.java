import java.util.Arrays;

/** What README.md says of the use of the class: its example, its table of calls, its tokens and words. */
public final class ReadmeTest {
    public static void main(String[] args) {
        example();
        callsInTheirPhase();
        callsOutOfTheirPhase();
        sizes();
        tokensInTheirOrder();
        lettersAndWords();
        Check.end("ReadmeTest");
    }

    private static void example() {
        Check.sentence("README: the example");
        TinyMl ml = new TinyMl();
        for (int t : new int[] {101, 14, 102}) {
            Check.same("token " + t, ml.token(t), true);
        }
        Check.same("parse", ml.parse(), 0);
        Check.same("infer", ml.infer(), 0);
        Check.same("typeSize", ml.typeSize(), 1);
        Check.same("typeAt 0", ml.typeAt(0), 0);
        Check.same("run 400", ml.run(400), 0);
        Check.same("outSize", ml.outSize(), 2);
        Check.same("outAt 0", ml.outAt(0), 0);
        Check.same("outAt 1", ml.outAt(1), 3);
        Check.same("used 0", ml.used(0), 3);
        Check.same("used 1", ml.used(1), 0);
        Check.same("used 2", ml.used(2), 2);
        ml.reset();
        Check.same("phase behind reset", ml.phase(), 0);
    }

    private static void callsInTheirPhase() {
        Check.sentence("README: a call that is not 0 leaves the phase, and the tokens");
        TinyMl ml = Check.reading("1 +");
        Check.same("parse of 1 +", ml.parse(), 3);
        Check.same("phase behind that", ml.phase(), 0);
        Check.same("token behind that", ml.token(109), true);
        Check.same("parse of 1 + TRUE", ml.parse(), 0);
        Check.same("phase of 1 + TRUE", ml.phase(), 1);
        TinyMl faulty = Check.parsed("1 + TRUE");
        Check.same("infer of 1 + TRUE", faulty.infer(), 2);
        Check.same("phase behind that", faulty.phase(), 1);
        TinyMl often = Check.typed("1 + 2");
        Check.same("run without fuel", often.run(0), 1);
        Check.same("phase behind that", often.phase(), 2);
        Check.same("run again", often.run(Integer.MAX_VALUE), 0);
    }

    private static void callsOutOfTheirPhase() {
        Check.sentence("README: what throws, and when");
        TinyMl[] objects = {Check.reading("1"), Check.parsed("1"), Check.typed("1")};
        for (int phase = 0; phase < 3; phase++) {
            TinyMl ml = objects[phase];
            Check.same("phase", ml.phase(), phase);
            if (phase != 0) {
                Check.throwsState("token in phase " + phase, () -> ml.token(101) ? 1 : 0);
                Check.throwsState("parse in phase " + phase, ml::parse);
            }
            if (phase != 1) {
                Check.throwsState("infer in phase " + phase, ml::infer);
            }
            if (phase != 2) {
                Check.throwsState("run in phase " + phase, () -> ml.run(400));
                Check.throwsMissing("typeAt in phase " + phase, () -> ml.typeAt(0));
            }
            Check.throwsMissing("typeAt 1 in phase " + phase, () -> ml.typeAt(1));
            Check.throwsMissing("outAt in phase " + phase, () -> ml.outAt(0));
        }
    }

    private static void sizes() {
        Check.sentence("README: sizes and what was used, before and behind a run");
        TinyMl ml = Check.parsed("( 1 , 2 )");
        Check.same("state of a parsed term", Check.state(ml), 1, -1, -1, 0, 0, 0);
        Check.same("infer", ml.infer(), 0);
        Check.same("state of a typed term", Check.state(ml), 2, 3, -1, 0, 0, 0, 3, 0, 0);
        Check.same("run", ml.run(400), 0);
        Check.same("state behind a run", Check.state(ml), 2, 3, 5, 3, 1, 2, 3, 0, 0, 3, 0, 1, 0, 2);
        Check.same("another what", ml.used(3), -1);
    }

    private static void tokensInTheirOrder() {
        Check.sentence("README: the tokens");
        String row = "( ) , ; FUN LET REC IF MATCH TRUE FALSE NIL FST SND + - * < = :: a b c d e f g h i j";
        int[] tokens = Check.tokens(row);
        int[] due = new int[30];
        Arrays.setAll(due, t -> t);
        Check.same("tokens of " + row, tokens, due);
        Check.same("token of 0", Check.tokens("0"), 100);
        TinyMl ml = new TinyMl();
        for (int t = 0; t < 200; t++) {
            boolean is = t < 30 || t >= 100;
            ml.reset();
            Check.same("token " + t, ml.token(t), is);
        }
    }

    private static void lettersAndWords() {
        Check.sentence("README: a term, its tokens, its type's and its value's words");
        String text = "LET a FUN b b ; ( a 1 , a TRUE )";
        Check.same("tokens", Check.tokens(text), 5, 20, 4, 21, 21, 3, 0, 20, 101, 2, 20, 9, 1);
        TinyMl ml = Check.typed(text);
        Check.same("type", Check.typeWords(ml), 3, 0, 1);
        Check.same("run", ml.run(400), 0);
        Check.same("value", Check.outWords(ml), 3, 0, 1, 1, 1);
        words("FUN a FUN b ( 1 , TRUE ) :: NIL", new int[] {2, 10, 2, 11, 4, 3, 0, 1}, 2);
        words("( FALSE :: NIL , FUN a 1 )", new int[] {3, 4, 1, 2, 10, 0}, 3, 5, 1, 0, 4, 2);
    }

    private static void words(String text, int[] type, int... value) {
        TinyMl ml = Check.typed(text);
        Check.same("type of " + text, Check.typeWords(ml), type);
        Check.same("run of " + text, ml.run(400), 0);
        Check.same("value of " + text, Check.outWords(ml), value);
    }
}
