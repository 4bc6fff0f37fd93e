/** Promises 4, 8 and 9: infer, typeSize and typeAt. */
public final class InferTest {
    private static final int INT = 0, BOOL = 1, FUN = 2, PAIR = 3, LIST = 4;

    public static void main(String[] args) {
        types();
        binding();
        general();
        unbound();
        mismatch();
        occurs();
        roomOfVariables();
        roomOfNames();
        whatComesFirst();
        states();
        words();
        Check.end("InferTest");
    }

    private static void type(String text, int... words) {
        TinyMl ml = Check.parsed(text);
        Check.same("infer of " + text, ml.infer(), 0);
        Check.same("phase behind infer of " + text, ml.phase(), 2);
        Check.same("typeSize of " + text, ml.typeSize(), words.length);
        Check.same("type of " + text, Check.typeWords(ml), words);
    }

    private static void fault(String text, int due) {
        TinyMl ml = Check.parsed(text);
        Check.same("infer of " + text, ml.infer(), due);
        Check.same("phase behind infer of " + text, ml.phase(), 1);
        Check.same("typeSize of " + text, ml.typeSize(), -1);
        Check.same("typeAt of " + text, Check.answer(() -> ml.typeAt(0)), Check.MISSING);
        Check.same("infer once more of " + text, ml.infer(), due);
    }

    private static void types() {
        type("1", INT);
        type("TRUE", BOOL);
        type("FALSE", BOOL);
        type("NIL", LIST, 10);
        type("( 1 , TRUE )", PAIR, INT, BOOL);
        type("( NIL , NIL )", PAIR, LIST, 10, LIST, 11);
        type("1 :: NIL", LIST, INT);
        type("NIL :: NIL", LIST, LIST, 10);
        type("1 + 2", INT);
        type("1 - 2 * 3", INT);
        type("1 < 2", BOOL);
        type("1 = 2", BOOL);
        type("FUN a a", FUN, 10, 10);
        type("FUN a FUN b a", FUN, 10, FUN, 11, 10);
        type("FUN a FUN b b", FUN, 10, FUN, 11, 11);
        type("FUN a a + 1", FUN, INT, INT);
        type("FUN a a = 1", FUN, INT, BOOL);
        type("FUN a FUN b a b", FUN, FUN, 10, 11, FUN, 10, 11);
        type("FUN a FST a", FUN, PAIR, 10, 11, 10);
        type("FUN a SND a", FUN, PAIR, 10, 11, 11);
        type("FUN a IF a ; 1 ; 2", FUN, BOOL, INT);
        type("FUN a IF TRUE ; a ; 2", FUN, INT, INT);
        type("FUN a MATCH a ; 0 ; b c b", FUN, LIST, INT, INT);
        type("FUN a MATCH a ; NIL ; b c c", FUN, LIST, 10, LIST, 10);
        type("FUN a FUN b b :: a", FUN, LIST, 10, FUN, 10, LIST, 10);
        type("REC a b a b ; a", FUN, 10, 11);
        type("REC a b IF b < 1 ; 0 ; a ( b - 1 ) ; a", FUN, INT, INT);
        type("( FUN a a ) TRUE", BOOL);
        type("FUN a FUN b FUN c a ( b c )", FUN, FUN, 10, 11, FUN, FUN, 12, 10, FUN, 12, 11);
    }

    private static void binding() {
        type("FUN a FUN a a", FUN, 10, FUN, 11, 11);
        type("LET a 1 ; LET a TRUE ; a", BOOL);
        type("LET a 1 ; LET a ( a , a ) ; a", PAIR, INT, INT);
        type("REC a a a + 1 ; a", FUN, INT, INT);
        type("FUN a MATCH a ; NIL ; b b b", FUN, LIST, 10, LIST, 10);
        type("LET a 1 ; REC a b a b ; a", FUN, 10, 11);
        type("LET b TRUE ; ( REC a b b + 1 ; b )", BOOL);
    }

    private static void general() {
        type("LET a FUN b b ; ( a 1 , a TRUE )", PAIR, INT, BOOL);
        type("LET a NIL ; ( 1 :: a , TRUE :: a )", PAIR, LIST, INT, LIST, BOOL);
        type("REC a b b ; ( a 1 , a TRUE )", PAIR, INT, BOOL);
        type("FUN a LET b ( a , NIL ) ; ( 1 :: SND b , TRUE :: SND b )", FUN, 10, PAIR, LIST, INT, LIST, BOOL);
        type("LET a FUN b LET c b ; c ; ( a 1 , a TRUE )", PAIR, INT, BOOL);
        type("LET a FUN b b ; LET c a ; ( c 1 , c TRUE )", PAIR, INT, BOOL);
        type("LET a FUN b b ; ( a , a )", PAIR, FUN, 10, 10, FUN, 11, 11);
        type("LET a FUN b b ; a a", FUN, 10, 10);
        type("FUN a LET b FUN c a ; ( b 1 , b TRUE )", FUN, 10, PAIR, 10, 10);
        type("FUN a LET b ( a , a ) ; b", FUN, 10, PAIR, 10, 10);
        fault("FUN a ( a 1 , a TRUE )", 2);
        fault("FUN a LET b a ; ( b 1 , b TRUE )", 2);
        fault("FUN a LET b FUN c a c ; ( b 1 , b TRUE )", 2);
        fault("FUN a REC b c a c ; ( b 1 , b TRUE )", 2);
        fault("REC a b ( a 1 , a TRUE ) ; 1", 2);
        fault("( FUN a ( a 1 , a TRUE ) ) ( FUN b b )", 2);
        fault("MATCH ( FUN a a ) :: NIL ; 1 ; b c FST ( 1 , ( b 1 , b TRUE ) )", 2);
    }

    private static void unbound() {
        fault("a", 1);
        fault("FUN a b", 1);
        fault("LET a a ; 1", 1);
        fault("( FUN a a , a )", 1);
        fault("REC a b 1 ; b", 1);
        fault("MATCH NIL ; a ; a b a", 1);
        fault("MATCH a ; 1 ; a b 1", 1);
        fault("( 1 + TRUE , j )", 1);
        fault("( FUN a a a , j )", 1);
        fault("IF j ; 1 ; 2", 1);
        fault("FST j", 1);
    }

    private static void mismatch() {
        String[] terms = {"1 + TRUE", "TRUE * 1", "1 < NIL", "( 1 , 2 ) = 3", "IF 1 ; 2 ; 3", "IF TRUE ; 2 ; FALSE",
            "1 1", "( FUN a a + 1 ) TRUE", "FST 1", "SND NIL", "1 :: 2", "1 :: TRUE :: NIL", "MATCH 1 ; 2 ; a b 3",
            "MATCH NIL ; 1 ; a b TRUE", "MATCH 1 :: NIL ; TRUE ; a b a", "REC a b b + 1 ; a TRUE", "REC a b 1 ; a + 1",
            "FUN a ( a 1 , a + 1 )"};
        for (String term : terms) {
            fault(term, 2);
        }
    }

    private static void occurs() {
        String[] terms = {"FUN a a a", "REC a b a ; 1", "FUN a a :: a", "FUN a IF TRUE ; a ; ( a , 1 )",
            "REC a b a ( b , b ) ; 1", "FUN a FUN b IF TRUE ; ( a , b ) ; ( b , ( a , a ) )"};
        for (String term : terms) {
            fault(term, 3);
        }
    }

    /** c has 15 words here. */
    private static final String PAIRS = "LET a ( 1 , 1 ) ; LET b ( a , a ) ; LET c ( b , b ) ; ";

    private static void roomOfVariables() {
        type(PAIRS + "( FUN d 1 ) ( c , ( a , ( 1 , NIL ) ) )", INT);
        fault(PAIRS + "( FUN d 1 ) ( c , ( a , ( NIL , NIL ) ) )", 4);
        type(PAIRS + "FUN d IF TRUE ; d ; ( c , b )",
                FUN, PAIR, PAIR, PAIR, PAIR, 0, 0, PAIR, 0, 0, PAIR, PAIR, 0, 0, PAIR, 0, 0, PAIR, PAIR, 0, 0, PAIR, 0, 0,
                PAIR, PAIR, PAIR, PAIR, 0, 0, PAIR, 0, 0, PAIR, PAIR, 0, 0, PAIR, 0, 0, PAIR, PAIR, 0, 0, PAIR, 0, 0);
        fault(PAIRS + "FUN d IF TRUE ; ( c , ( b , 1 ) ) ; d", 4);
        fault(PAIRS + "( c , c ) :: NIL", 4);
        fault("LET a FUN b ( b , b ) ; a ( a ( a ( a ( a 1 ) ) ) )", 4);
        Check.typed("LET a FUN b ( b , b ) ; a ( a ( a 1 ) )");
        fault("FUN j LET a ( j , j ) ; LET b ( a , a ) ; LET c ( b , b ) ; LET d ( c , c ) ; IF TRUE ; j ; d", 3);
        fault("FUN i FUN j LET a ( j , j ) ; LET b ( a , a ) ; LET c ( b , b ) ; LET d ( c , c ) ; IF TRUE ; i ; d", 4);
    }

    /** The last name has 20 parts in one another when the innermost is 1, and 21 when it is NIL. */
    private static String tall(String innermost, String end) {
        return "LET a " + "FUN b ".repeat(6) + innermost + " ; LET c " + "FUN b ".repeat(5) + "a ; LET d "
                + "FUN b ".repeat(4) + "c ; LET e " + "FUN b ".repeat(3) + "d ; LET f FUN b e ; " + end;
    }

    private static void roomOfNames() {
        Check.same("typeSize of 20 in one another", Check.typed(tall("1", "f")).typeSize(), 39);
        fault(tall("NIL", "f"), 4);
        type(tall("NIL", "1"), INT);
        Check.same("typeSize of what is bound by none", Check.typed("LET a ( 1 , 2 ) ; LET b ( a , a ) ; LET c ( b , b ) ;"
                + " LET d ( c , c ) ; LET e ( d , d ) ; e").typeSize(), 63);
    }

    private static void whatComesFirst() {
        fault("( 1 + TRUE , FUN a a a )", 2);
        fault("( FUN a a a , 1 + TRUE )", 3);
        fault("IF 1 ; FUN a a a ; 1", 2);
        fault("IF TRUE ; FUN a a a ; 1", 3);
        fault("TRUE + ( FUN a a a )", 2);
        fault("1 + ( FUN a a a )", 3);
        fault("( FUN a a a ) < TRUE", 3);
        fault("1 ( FUN a a a )", 3);
        fault("MATCH 1 ; FUN a a a ; b c 1", 2);
        fault("MATCH NIL ; FUN a a a ; b c b + TRUE", 3);
        fault("1 :: ( FUN a a a )", 3);
        fault("FST ( 1 + TRUE , FUN a a a )", 2);
        fault("LET a 1 + TRUE ; FUN a a a", 2);
        fault("REC a b FUN c c c ; 1 + TRUE", 3);
        fault(PAIRS + "( ( c , c ) :: NIL , 1 + TRUE )", 4);
        fault(PAIRS + "( 1 + TRUE , ( c , c ) :: NIL )", 2);
        fault("FUN a FUN b IF TRUE ; ( ( a , 1 ) , b ) ; ( ( b , TRUE ) , ( b , b ) )", 2);
        fault("FUN a IF TRUE ; ( a , 1 ) ; ( ( a , a ) , TRUE )", 3);
    }

    private static void states() {
        TinyMl reading = Check.reading("1");
        Check.same("infer when reading", Check.answer(reading::infer), Check.STATE);
        Check.same("typeSize when reading", reading.typeSize(), -1);
        TinyMl parsed = Check.parsed("1");
        Check.same("typeSize when parsed", parsed.typeSize(), -1);
        Check.same("typeAt when parsed", Check.answer(() -> parsed.typeAt(0)), Check.MISSING);
        TinyMl typed = Check.typed("1");
        Check.same("infer when typed", Check.answer(typed::infer), Check.STATE);
        Check.same("phase behind that", typed.phase(), 2);
        typed.reset();
        Check.same("typeSize behind reset", typed.typeSize(), -1);
        Check.same("typeAt behind reset", Check.answer(() -> typed.typeAt(0)), Check.MISSING);
    }

    private static void words() {
        TinyMl two = Check.typed("1 :: NIL");
        Check.same("word 0", two.typeAt(0), LIST);
        Check.same("word 1", two.typeAt(1), INT);
        for (int i : new int[] {2, 100, -1, Integer.MAX_VALUE, Integer.MIN_VALUE}) {
            Check.same("word " + i, Check.answer(() -> two.typeAt(i)), Check.MISSING);
        }
        String chain = PAIRS + "LET d ( c , c ) ; LET e ( d , d ) ; ( ( e , d ) , ";
        TinyMl hundred = Check.typed(chain + "( 1 , NIL ) )");
        Check.same("typeSize of 100 words", hundred.typeSize(), 100);
        Check.same("word 99", hundred.typeAt(99), 10);
        Check.same("word 98", hundred.typeAt(98), LIST);
        Check.same("word 100", Check.answer(() -> hundred.typeAt(100)), Check.MISSING);
        TinyMl more = Check.typed(chain + "( NIL , NIL ) )");
        Check.same("typeSize of 101 words", more.typeSize(), -2);
        Check.same("word 0 of 101", Check.answer(() -> more.typeAt(0)), Check.MISSING);
        Check.same("word 100 of 101", Check.answer(() -> more.typeAt(100)), Check.MISSING);
        Check.same("phase of 101 words", more.phase(), 2);
    }
}
