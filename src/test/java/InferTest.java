/** Promises 4, 8 and 9: the types that terms have, and the faults of those that have none. */
public final class InferTest {
    private static final int INT = 0, BOOL = 1, FUN = 2, PAIR = 3, LIST = 4;

    public static void main(String[] args) {
        types();
        binding();
        general();
        unbound();
        mismatch();
        occurs();
        Check.end("InferTest");
    }

    private static void type(String text, int... words) {
        TinyMl ml = Check.parsed(text);
        Check.same("infer of " + text, ml.infer(), 0);
        Check.same("phase behind infer of " + text, ml.phase(), 2);
        Check.same("typeSize of " + text, ml.typeSize(), words.length);
        Check.same("type of " + text, Check.typeWords(ml), words);
    }

    private static void fault(String text, int due) {
        TinyMl ml = Check.parsed(text);
        Check.same("infer of " + text, ml.infer(), due);
        Check.same("phase behind infer of " + text, ml.phase(), 1);
        Check.same("typeSize of " + text, ml.typeSize(), -1);
        Check.same("typeAt of " + text, Check.answer(() -> ml.typeAt(0)), Check.MISSING);
        Check.same("infer once more of " + text, ml.infer(), due);
    }

    private static void types() {
        type("1", INT);
        type("TRUE", BOOL);
        type("FALSE", BOOL);
        type("NIL", LIST, 10);
        type("( 1 , TRUE )", PAIR, INT, BOOL);
        type("( NIL , NIL )", PAIR, LIST, 10, LIST, 11);
        type("1 :: NIL", LIST, INT);
        type("NIL :: NIL", LIST, LIST, 10);
        type("1 + 2", INT);
        type("1 - 2 * 3", INT);
        type("1 < 2", BOOL);
        type("1 = 2", BOOL);
        type("FUN a a", FUN, 10, 10);
        type("FUN a FUN b a", FUN, 10, FUN, 11, 10);
        type("FUN a FUN b b", FUN, 10, FUN, 11, 11);
        type("FUN a a + 1", FUN, INT, INT);
        type("FUN a a = 1", FUN, INT, BOOL);
        type("FUN a FUN b a b", FUN, FUN, 10, 11, FUN, 10, 11);
        type("FUN a FST a", FUN, PAIR, 10, 11, 10);
        type("FUN a SND a", FUN, PAIR, 10, 11, 11);
        type("FUN a IF a ; 1 ; 2", FUN, BOOL, INT);
        type("FUN a IF TRUE ; a ; 2", FUN, INT, INT);
        type("FUN a MATCH a ; 0 ; b c b", FUN, LIST, INT, INT);
        type("FUN a MATCH a ; NIL ; b c c", FUN, LIST, 10, LIST, 10);
        type("FUN a FUN b b :: a", FUN, LIST, 10, FUN, 10, LIST, 10);
        type("REC a b a b ; a", FUN, 10, 11);
        type("REC a b IF b < 1 ; 0 ; a ( b - 1 ) ; a", FUN, INT, INT);
        type("( FUN a a ) TRUE", BOOL);
        type("FUN a FUN b FUN c a ( b c )", FUN, FUN, 10, 11, FUN, FUN, 12, 10, FUN, 12, 11);
    }

    private static void binding() {
        type("FUN a FUN a a", FUN, 10, FUN, 11, 11);
        type("LET a 1 ; LET a TRUE ; a", BOOL);
        type("LET a 1 ; LET a ( a , a ) ; a", PAIR, INT, INT);
        type("REC a a a + 1 ; a", FUN, INT, INT);
        type("FUN a MATCH a ; NIL ; b b b", FUN, LIST, 10, LIST, 10);
        type("LET a 1 ; REC a b a b ; a", FUN, 10, 11);
        type("LET b TRUE ; ( REC a b b + 1 ; b )", BOOL);
    }

    private static void general() {
        type("LET a FUN b b ; ( a 1 , a TRUE )", PAIR, INT, BOOL);
        type("LET a NIL ; ( 1 :: a , TRUE :: a )", PAIR, LIST, INT, LIST, BOOL);
        type("REC a b b ; ( a 1 , a TRUE )", PAIR, INT, BOOL);
        type("FUN a LET b ( a , NIL ) ; ( 1 :: SND b , TRUE :: SND b )", FUN, 10, PAIR, LIST, INT, LIST, BOOL);
        type("LET a FUN b LET c b ; c ; ( a 1 , a TRUE )", PAIR, INT, BOOL);
        type("LET a FUN b b ; LET c a ; ( c 1 , c TRUE )", PAIR, INT, BOOL);
        type("LET a FUN b b ; ( a , a )", PAIR, FUN, 10, 10, FUN, 11, 11);
        type("LET a FUN b b ; a a", FUN, 10, 10);
        type("FUN a LET b FUN c a ; ( b 1 , b TRUE )", FUN, 10, PAIR, 10, 10);
        type("FUN a LET b ( a , a ) ; b", FUN, 10, PAIR, 10, 10);
        fault("FUN a ( a 1 , a TRUE )", 2);
        fault("FUN a LET b a ; ( b 1 , b TRUE )", 2);
        fault("FUN a LET b FUN c a c ; ( b 1 , b TRUE )", 2);
        fault("FUN a REC b c a c ; ( b 1 , b TRUE )", 2);
        fault("REC a b ( a 1 , a TRUE ) ; 1", 2);
        fault("( FUN a ( a 1 , a TRUE ) ) ( FUN b b )", 2);
        fault("MATCH ( FUN a a ) :: NIL ; 1 ; b c FST ( 1 , ( b 1 , b TRUE ) )", 2);
    }

    private static void unbound() {
        fault("a", 1);
        fault("FUN a b", 1);
        fault("LET a a ; 1", 1);
        fault("( FUN a a , a )", 1);
        fault("REC a b 1 ; b", 1);
        fault("MATCH NIL ; a ; a b a", 1);
        fault("MATCH a ; 1 ; a b 1", 1);
        fault("( 1 + TRUE , j )", 1);
        fault("( FUN a a a , j )", 1);
        fault("IF j ; 1 ; 2", 1);
        fault("FST j", 1);
    }

    private static void mismatch() {
        String[] terms = {"1 + TRUE", "TRUE * 1", "1 < NIL", "( 1 , 2 ) = 3", "IF 1 ; 2 ; 3", "IF TRUE ; 2 ; FALSE",
            "1 1", "( FUN a a + 1 ) TRUE", "FST 1", "SND NIL", "1 :: 2", "1 :: TRUE :: NIL", "MATCH 1 ; 2 ; a b 3",
            "MATCH NIL ; 1 ; a b TRUE", "MATCH 1 :: NIL ; TRUE ; a b a", "REC a b b + 1 ; a TRUE", "REC a b 1 ; a + 1",
            "FUN a ( a 1 , a + 1 )"};
        for (String term : terms) {
            fault(term, 2);
        }
    }

    private static void occurs() {
        String[] terms = {"FUN a a a", "REC a b a ; 1", "FUN a a :: a", "FUN a IF TRUE ; a ; ( a , 1 )",
            "REC a b a ( b , b ) ; 1", "FUN a FUN b IF TRUE ; ( a , b ) ; ( b , ( a , a ) )"};
        for (String term : terms) {
            fault(term, 3);
        }
    }
}
