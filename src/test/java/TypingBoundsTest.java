/** Promises 4, 8 and 9 and the types: each sentence that tells a bound, on both of its sides. */
public final class TypingBoundsTest {
    private static final int INT = 0, BOOL = 1, FUN = 2, PAIR = 3, LIST = 4;
    private static final int UNBOUND = 1, MISMATCH = 2, OCCURS = 3, ROOM = 4;

    /** b has 7 words, c has 15. */
    private static final String PAIRS = "LET b ( ( 1 , 1 ) , ( 1 , 1 ) ) ; LET c ( b , b ) ; ";

    public static void main(String[] args) {
        whereNamesAreBound();
        namesAlike();
        innermostCounts();
        outerCountsAgain();
        unboundGoesFirst();
        whatComesFirst();
        atOnce();
        leftToRight();
        sameVariableTwice();
        occurs();
        twentyFourWords();
        twentyFourWordsOfAllKnown();
        occursBeforeRoom();
        twentyPartsInOneAnother();
        twentyPartsOfRec();
        twentyPartsAreRenewed();
        onlyGeneralTypesHaveARoom();
        onlyNamesThatStandThere();
        whatIsGeneral();
        aroundByAnyBinder();
        generalInPart();
        manyTypes();
        variablesInTheirOrder();
        sizeOfTheType();
        wordsOfTheType();
        moreThanHundredWords();
        inferOnlyWhenParsed();
        faultsLeaveItParsed();
        Check.end("TypingBoundsTest");
    }

    private static void type(String text, int... words) {
        TinyMl ml = Check.parsed(text);
        Check.same("infer of " + text, ml.infer(), 0);
        Check.same("phase behind infer of " + text, ml.phase(), 2);
        Check.same("type of " + text, Check.typeWords(ml), words);
    }

    private static void infer(String text, int due) {
        TinyMl ml = Check.parsed(text);
        Check.same("infer of " + text, ml.infer(), due);
        Check.same("phase behind infer of " + text, ml.phase(), due == 0 ? 2 : 1);
    }

    // ---- names ------------------------------------------------------------------------------------------------

    private static void whereNamesAreBound() {
        Check.sentence("NAMES: FUN x t: x is bound in t");
        infer("FUN a a", 0);
        infer("( FUN a 1 ) a", UNBOUND);
        infer("( 1 , a )", UNBOUND);
        Check.sentence("NAMES: LET x t ; u: x in u");
        infer("LET a 1 ; a", 0);
        infer("LET a a ; 1", UNBOUND);
        infer("( LET a 1 ; 1 ) + a", UNBOUND);
        Check.sentence("NAMES: REC f x t ; u: f and x in t, f in u");
        infer("REC a b a b ; 1", 0);
        infer("REC a b 1 ; a", 0);
        infer("REC a b 1 ; b", UNBOUND);
        infer("( REC a b 1 ; 1 ) + a", UNBOUND);
        Check.sentence("NAMES: MATCH l ; t ; x y u: x and y in u");
        infer("MATCH NIL ; 1 ; a b FST ( 1 , ( a , b ) )", 0);
        for (String name : new String[] {"a", "b"}) {
            infer("MATCH " + name + " ; 1 ; a b 1", UNBOUND);
            infer("MATCH NIL ; " + name + " ; a b 1", UNBOUND);
            infer("( MATCH NIL ; 1 ; a b 1 ) + " + name, UNBOUND);
        }
    }

    private static void namesAlike() {
        Check.sentence("NAMES: for f x alike, x counts");
        type("REC a a a + 1 ; 1", INT);
        infer("REC a a a 1 + a ; 1", MISMATCH);
        type("REC a a a + 1 ; a", FUN, INT, INT);
        Check.sentence("NAMES: for x y alike, y counts");
        type("FUN b MATCH b ; NIL ; a a a", FUN, LIST, 10, LIST, 10);
        infer("MATCH 1 :: NIL ; 1 ; a a a + 1", MISMATCH);
    }

    private static void innermostCounts() {
        Check.sentence("NAMES: the innermost counts");
        type("FUN a LET a TRUE ; a", FUN, 10, BOOL);
        type("LET a TRUE ; FUN a a + 1", FUN, INT, INT);
        type("LET a TRUE ; REC a b 1 ; a", FUN, 10, INT);
        type("LET b TRUE ; REC a b b + 1 ; b", BOOL);
        type("LET a TRUE ; MATCH 1 :: NIL ; 2 ; a b a", INT);
        type("LET a 1 ; LET a a < 2 ; a", BOOL);
        type("LET a 1 ; ( LET a TRUE ; a , a )", PAIR, BOOL, INT);
    }

    private static void outerCountsAgain() {
        Check.sentence("NAMES: bound in its term, and not behind it");
        type("LET a TRUE ; ( ( FUN a a + 1 ) 1 , a )", PAIR, INT, BOOL);
        type("LET a TRUE ; ( LET a 1 ; a , a )", PAIR, INT, BOOL);
        type("LET a TRUE ; ( REC a b 1 ; a 2 , a )", PAIR, INT, BOOL);
        type("LET b TRUE ; ( REC a b b + 1 ; 2 , b )", PAIR, INT, BOOL);
        type("LET a TRUE ; ( MATCH 1 :: NIL ; 2 ; a b a , a )", PAIR, INT, BOOL);
        type("LET b TRUE ; ( MATCH 1 :: NIL ; NIL ; a b b , b )", PAIR, LIST, INT, BOOL);
    }

    // ---- which fault ------------------------------------------------------------------------------------------

    private static void unboundGoesFirst() {
        Check.sentence("4: 1 when a name is not bound; otherwise what comes first");
        infer("a", UNBOUND);
        for (String faulty : new String[] {"1 + TRUE", "FUN b b b", PAIRS + "( c , c ) :: NIL"}) {
            infer("( " + faulty + " , j )", UNBOUND);
            infer("( j , " + faulty + " )", UNBOUND);
        }
        infer("IF TRUE ; 1 ; FUN a b", UNBOUND);
    }

    private static void whatComesFirst() {
        Check.sentence("4: what comes first: 2 MISMATCH, 3 OCCURS, 4 ROOM");
        String[] faulty = {"1 + TRUE", "FUN d d d", "( ( c , c ) :: NIL )"};
        for (int one = 0; one < 3; one++) {
            infer(PAIRS + faulty[one], MISMATCH + one);
            for (int other = 0; other < 3; other++) {
                infer(PAIRS + "( " + faulty[one] + " , " + faulty[other] + " )", MISMATCH + one);
            }
        }
    }

    private static void atOnce() {
        String occurs = "( FUN d d d )";
        Check.sentence("TYPES: IF: c's type is unified with BOOL, at once");
        infer("IF 1 ; " + occurs + " ; 1", MISMATCH);
        infer("IF TRUE ; " + occurs + " ; 1", OCCURS);
        Check.sentence("TYPES: + - * < =: the left one's type is unified with INT, at once, then the right one's");
        for (String sign : new String[] {"+", "-", "*", "<", "="}) {
            infer("TRUE " + sign + " " + occurs, MISMATCH);
            infer("1 " + sign + " " + occurs, OCCURS);
            infer("1 " + sign + " TRUE", MISMATCH);
            infer("1 " + sign + " 1", 0);
        }
        Check.sentence("TYPES: MATCH: l's type is unified with LIST of a new a, at once");
        infer("MATCH 1 ; " + occurs + " ; a b 1", MISMATCH);
        infer("MATCH NIL ; " + occurs + " ; a b 1", OCCURS);
    }

    private static void leftToRight() {
        String occurs = "( FUN d d d )";
        Check.sentence("TYPES: a call: f's type, a's type, then they are unified");
        infer("1 " + occurs, OCCURS);
        infer("( 1 + TRUE ) " + occurs, MISMATCH);
        Check.sentence("TYPES: IF: t's and u's types, which are unified then");
        infer("IF TRUE ; 1 ; FST ( TRUE , " + occurs + " )", OCCURS);
        infer("IF TRUE ; 1 ; TRUE", MISMATCH);
        infer("IF TRUE ; 1 + TRUE ; " + occurs, MISMATCH);
        infer("IF TRUE ; " + occurs + " ; 1 + TRUE", OCCURS);
        Check.sentence("TYPES: a :: l: a's type, l's type, then they are unified");
        infer("1 :: FST ( TRUE , " + occurs + " )", OCCURS);
        infer("( 1 + TRUE ) :: " + occurs, MISMATCH);
        Check.sentence("TYPES: MATCH: t's type, then u's, then they are unified");
        infer("MATCH NIL ; 1 ; a b FST ( TRUE , " + occurs + " )", OCCURS);
        infer("MATCH NIL ; 1 + TRUE ; a b " + occurs, MISMATCH);
        Check.sentence("TYPES: REC: r and t's type are unified, then u's type");
        infer("REC a b a ; 1 + TRUE", OCCURS);
        infer("REC a b 1 + TRUE ; " + occurs, MISMATCH);
        Check.sentence("TYPES: LET: t's type; then u's");
        infer("LET a 1 + TRUE ; " + occurs, MISMATCH);
        infer("LET a " + occurs + " ; 1 + TRUE", OCCURS);
        infer("LET a 1 + TRUE ; 1", MISMATCH);
        infer("LET a 1 ; a + TRUE", MISMATCH);
        Check.sentence("TYPES: FUN x t, FST t, SND t: t's type, though it is never worked out");
        infer("FUN a 1 + TRUE", MISMATCH);
        infer("FUN a " + occurs, OCCURS);
        for (String half : new String[] {"FST", "SND"}) {
            infer(half + " ( 1 + TRUE )", MISMATCH);
            infer(half + " " + occurs, OCCURS);
            infer(half + " ( 1 , " + occurs + " )", OCCURS);
            infer(half + " ( " + occurs + " , 1 )", OCCURS);
        }
        Check.sentence("UNIFYING: first their first parts, then their second ones");
        infer("FUN a IF TRUE ; ( a , 1 ) ; ( ( a , a ) , TRUE )", OCCURS);
        infer("FUN a IF TRUE ; ( 1 , a ) ; ( TRUE , ( a , a ) )", MISMATCH);
        infer("FUN a IF TRUE ; FUN b LET d IF TRUE ; b ; a ; 1 ; FUN b LET d IF TRUE ; b ; ( a , a ) ; TRUE", OCCURS);
        infer("FUN a IF TRUE ; FUN b LET d IF TRUE ; b ; 1 ; a ; FUN b LET d IF TRUE ; b ; TRUE ; ( a , a )", MISMATCH);
    }

    private static void sameVariableTwice() {
        Check.sentence("UNIFYING: the same variable twice: nothing");
        type("FUN a IF TRUE ; a ; a", FUN, 10, 10);
        type("FUN a FUN b IF TRUE ; ( a , b ) ; ( b , a )", FUN, 10, FUN, 10, PAIR, 10, 10);
        type("FUN a IF TRUE ; FUN b a ; FUN b a", FUN, 10, FUN, 11, 10);
    }

    private static void occurs() {
        Check.sentence("UNIFYING: if that variable occurs in the other one: OCCURS");
        infer("FUN a IF TRUE ; a ; ( a , 1 )", OCCURS);
        infer("FUN a IF TRUE ; ( a , 1 ) ; a", OCCURS);
        infer("FUN a IF TRUE ; a ; ( 1 , a )", OCCURS);
        infer("FUN a IF TRUE ; a ; a :: NIL", OCCURS);
        infer("FUN a IF TRUE ; a ; FUN b a", OCCURS);
        infer("FUN a FUN b IF TRUE ; ( a , b ) ; ( b :: NIL , a )", OCCURS);
        infer("FUN a FUN b IF TRUE ; ( a , b ) ; ( b :: NIL , 1 )", 0);
        infer("FUN a a a", OCCURS);
        infer("REC a b a ; 1", OCCURS);
    }

    // ---- room -------------------------------------------------------------------------------------------------

    private static final String WORDS_24 = "( c , b :: NIL )";
    private static final String WORDS_25 = "( c , ( b , 1 ) )";

    /** Both types stand where @ stands: one may be taken by a variable, the other not. */
    private static void words(String form) {
        infer(PAIRS + form.replace("@", WORDS_24), 0);
        infer(PAIRS + form.replace("@", WORDS_25), ROOM);
    }

    private static void twentyFourWords() {
        Check.sentence("UNIFYING: s a variable, if the other one has more than 24 words: ROOM");
        words("FUN d IF TRUE ; d ; @");
        words("( FUN d 1 ) @");
        words("@ :: NIL");
        words("REC e d @ ; 1");
        Check.sentence("UNIFYING: t a variable, if the other one has more than 24 words: ROOM");
        words("FUN d IF TRUE ; @ ; d");
        words("( FUN d @ ) 1");
        words("FST ( @ , 1 )");
        words("SND ( 1 , @ )");
        Check.sentence("UNIFYING: more than 24 words: FUN and LIST, and the variable of a call, count with the parts");
        infer(PAIRS + "FUN d d ( c , ( ( 1 , 1 ) , 1 ) :: NIL )", 0);
        infer(PAIRS + "FUN d d ( c , b )", ROOM);
        infer(PAIRS + "FUN d ( c , b ) :: d", 0);
        infer(PAIRS + "FUN d " + WORDS_24 + " :: d", ROOM);
        infer(PAIRS + "FUN d IF TRUE ; d ; FUN e ( c , ( 1 , 1 ) :: NIL )", 0);
        infer(PAIRS + "FUN d IF TRUE ; d ; FUN e ( c , b )", ROOM);
        Check.sentence("UNIFYING: more than 24 words: only when a variable becomes them");
        infer(PAIRS + "( c , ( c , c ) )", 0);
        infer(PAIRS + "LET d ( c , c ) ; IF TRUE ; d ; d", 0);
        infer(PAIRS + "FUN d ( d , " + WORDS_25 + " )", 0);
    }

    private static void twentyFourWordsOfAllKnown() {
        Check.sentence("UNIFYING: both with all that is known put in");
        String known = "LET b ( ( 1 , 1 ) , ( 1 , 1 ) ) ; LET c ( ( b , b ) , b ) ; FUN d LET e @ :: NIL ; "
                + "LET f IF TRUE ; d ; c ; MATCH e ; 1 ; g h 1";
        infer(known.replace("@", "d"), 0);
        infer(known.replace("@", "( d :: NIL )"), 0);
        infer(known.replace("@", "( d , 1 )"), ROOM);
    }

    private static void occursBeforeRoom() {
        Check.sentence("UNIFYING: OCCURS, then ROOM");
        String chain = "FUN i FUN j LET a ( j , j ) ; LET b ( a , a ) ; LET c ( b , b ) ; LET d ( c , c ) ; ";
        infer(chain + "IF TRUE ; j ; d", OCCURS);
        infer(chain + "IF TRUE ; d ; j", OCCURS);
        infer(chain + "IF TRUE ; i ; d", ROOM);
        infer(chain + "IF TRUE ; d ; i", ROOM);
    }

    /** d puts what it gets into 3 lists, e into 15. */
    private static final String LISTS = "LET d FUN b ( ( b :: NIL ) :: NIL ) :: NIL ; "
            + "LET e FUN b d ( d ( d ( d ( d b ) ) ) ) ; ";

    private static void twentyPartsInOneAnother() {
        Check.sentence("TYPES: a name: more than 20 parts in one another: ROOM; a variable counts, too");
        infer(LISTS + "LET f d ( e NIL ) ; f", 0);
        infer(LISTS + "LET f d ( e NIL ) :: NIL ; f", ROOM);
        for (String leaf : new String[] {"1", "TRUE"}) {
            Check.sentence("TYPES: a name: more than 20 parts in one another: ROOM; INT, BOOL count, too: " + leaf);
            infer(LISTS + "LET f ( d ( e " + leaf + " ) , NIL ) ; f", 0);
            infer(LISTS + "LET f ( d ( e " + leaf + " :: NIL ) , NIL ) ; f", ROOM);
            infer(LISTS + "LET f ( NIL , d ( e " + leaf + " ) ) ; f", 0);
            infer(LISTS + "LET f ( NIL , d ( e " + leaf + " :: NIL ) ) ; f", ROOM);
        }
        Check.sentence("TYPES: a name: parts in one another, not beside one another");
        infer("LET a ( NIL , NIL ) ; LET b ( a , a ) ; LET c ( b , b ) ; LET d ( c , c ) ; LET e ( d , d ) ; e", 0);
        Check.sentence("TYPES: a name: with all known put in");
        infer(LISTS + "FUN g LET f ( d g , NIL ) ; SND ( IF TRUE ; g ; e 1 , f )", 0);
        infer(LISTS + "FUN g LET f ( d g :: NIL , NIL ) ; SND ( IF TRUE ; g ; e 1 , f )", ROOM);
    }

    private static void twentyPartsOfRec() {
        Check.sentence("TYPES: REC: then in u f has FUN a r, general as in LET");
        infer(LISTS + "REC f g d ( e 1 ) ; f", 0);
        infer(LISTS + "REC f g d ( e 1 :: NIL ) ; f", ROOM);
        type("REC a b b ; ( a 1 , a TRUE )", PAIR, INT, BOOL);
        infer("REC a b ( a 1 , a TRUE ) ; 1", MISMATCH);
    }

    private static void twentyPartsAreRenewed() {
        Check.sentence("TYPES: a name: a new variable for each that is general, also where it is the 20th part");
        twice("d ( e NIL )", 20);
        twice("( 1 , ( e NIL :: NIL ) :: NIL )", 21);
        twice("( ( e NIL :: NIL ) :: NIL , 1 )", 21);
    }

    /** The type has so many words; the variable in it is another one for each of both. */
    private static void twice(String text, int words) {
        TinyMl ml = Check.typed(LISTS + "LET f " + text + " ; ( f , f )");
        int[] type = Check.typeWords(ml);
        Check.same("words of twice " + text, type.length, 1 + 2 * words);
        int last = 0;
        int variables = 0;
        for (int word : type) {
            variables += word >= 10 ? 1 : 0;
            last = Math.max(last, word);
        }
        Check.same("variables of twice " + text, variables, 2);
        Check.same("last variable of twice " + text, last, 11);
    }

    /** "d ( e 1 )" has 21 parts in one another here. */
    private static final String TALL = "LET d FUN b ( ( ( b :: NIL ) :: NIL ) :: NIL ) :: NIL ; "
            + "LET e FUN b d ( d ( d ( d b ) ) ) ; ";

    private static void onlyGeneralTypesHaveARoom() {
        Check.sentence("TYPES: a name: ROOM when its type is general, as in LET and REC");
        infer(TALL + "LET f d ( e 1 ) ; f", ROOM);
        infer(TALL + "REC f g d ( e 1 ) ; f", ROOM);
        Check.sentence("TYPES: a name: ROOM only when its type is general");
        infer(TALL + "FUN f ( IF TRUE ; f ; d ( e 1 ) , f )", 0);
        infer(TALL + "REC f g IF TRUE ; ( IF TRUE ; g ; d ( e 1 ) ) ; g ; 1", 0);
        infer(TALL + "REC f g IF TRUE ; ( IF TRUE ; g ; d ( e 1 ) ) ; f g ; 1", 0);
        infer(TALL + "MATCH d ( e 1 ) :: NIL ; NIL ; f g f", 0);
        infer(TALL + "MATCH d ( e 1 ) ; NIL ; f g g", 0);
    }

    private static void onlyNamesThatStandThere() {
        Check.sentence("TYPES: a name: ROOM only where the name stands");
        infer(LISTS + "LET f d ( e NIL ) :: NIL ; 1", 0);
        infer(LISTS + "d ( e NIL ) :: NIL", 0);
        infer(LISTS + "LET f d ( e NIL ) :: NIL ; LET f 1 ; f", 0);
        infer(LISTS + "LET f d ( e NIL ) :: NIL ; ( 1 + TRUE , f )", MISMATCH);
    }

    private static void whatIsGeneral() {
        Check.sentence("TYPES: LET: all variables are general that do not occur in the types of the names around it");
        type("LET a NIL ; ( 1 :: a , TRUE :: a )", PAIR, LIST, INT, LIST, BOOL);
        infer("FUN a LET b a ; ( b 1 , b TRUE )", MISMATCH);
        infer("FUN a FUN c LET b a ; ( b 1 , b TRUE )", MISMATCH);
        infer("FUN c FUN a LET b a ; ( b 1 , b TRUE )", MISMATCH);
        infer("FUN a LET b FUN c a c ; ( b 1 , b TRUE )", MISMATCH);
        infer("REC a c LET b a ; ( b 1 , b TRUE ) ; 1", MISMATCH);
        infer("FUN a MATCH a ; 1 ; c d LET b c ; FST ( 1 , ( b 1 , b TRUE ) )", MISMATCH);
        type("FUN a LET b ( a , NIL ) ; ( 1 :: SND b , TRUE :: SND b )", FUN, 10, PAIR, LIST, INT, LIST, BOOL);
        type("LET a NIL ; LET b a ; ( 1 :: b , TRUE :: b )", PAIR, LIST, INT, LIST, BOOL);
    }

    /** The variable of b's type occurs in the type of one name around it, and in no other's. */
    private static void aroundByAnyBinder() {
        Check.sentence("TYPES: LET: the names that are bound around it by REC");
        infer("REC a c LET b c ; ( b 1 , b TRUE ) ; 1", MISMATCH);
        infer("REC a c FUN c LET b a ; ( b 1 , b TRUE ) ; 1", MISMATCH);
        infer("REC a a LET b a ; ( b 1 , b TRUE ) ; 1", MISMATCH);
        Check.sentence("TYPES: LET: the names that are bound around it by MATCH");
        infer("MATCH NIL ; 1 ; c d LET b c ; FST ( 1 , ( b 1 , b TRUE ) )", MISMATCH);
        infer("MATCH NIL ; 1 ; c d LET b d ; FST ( 1 , ( 1 :: b , TRUE :: b ) )", MISMATCH);
        infer("MATCH NIL ; 1 ; c c LET b c ; FST ( 1 , ( 1 :: b , TRUE :: b ) )", MISMATCH);
        Check.sentence("TYPES: LET: the names that are bound around it by LET");
        infer("FUN a LET a a ; LET b a ; ( b 1 , b TRUE )", MISMATCH);
        infer("FUN a LET c ( a , a ) ; LET b FST c ; ( b 1 , b TRUE )", MISMATCH);
        Check.sentence("TYPES: LET: the names around it, not those that are bound in t");
        type("LET a FUN b LET c b ; c ; ( a 1 , a TRUE )", PAIR, INT, BOOL);
        type("LET a ( REC b c c ; b ) ; ( a 1 , a TRUE )", PAIR, INT, BOOL);
        type("LET a FUN b MATCH b ; NIL ; c d d ; ( a ( 1 :: NIL ) , a ( TRUE :: NIL ) )",
                PAIR, LIST, INT, LIST, BOOL);
    }

    private static void generalInPart() {
        String[] forms = {"LET b FUN c @ ; ( b 1 , b TRUE )", "REC b c @ ; ( b 1 , b TRUE )"};
        for (String form : forms) {
            Check.sentence("TYPES: some variables are general and others are not, as in FUN a " + form);
            type("FUN a " + form.replace("@", "a"), FUN, 10, PAIR, 10, 10);
            type("FUN a " + form.replace("@", "c"), FUN, 10, PAIR, INT, BOOL);
            type("FUN a " + form.replace("@", "( a , c )"), FUN, 10, PAIR, PAIR, 10, INT, PAIR, 10, BOOL);
            infer("FUN a " + form.replace("@", "IF TRUE ; a ; c"), MISMATCH);
            infer("FUN a " + form.replace("@", "a c"), MISMATCH);
        }
    }

    private static void manyTypes() {
        Check.sentence("4: infer answers also for terms with very many types");
        String many = "REC a d d NIL NIL NIL NIL NIL 0 ; REC b d d a a a a a a a ; "
                + "LET c ( b , b ) ; LET d ( c , c ) ; LET e ( d , d ) ; ";
        Check.same("typeSize of many types", Check.typed(many + "IF TRUE ; e ; e").typeSize(), -2);
        type(many + "FUN g ( g , a )", FUN, 10, PAIR, 10, FUN,
                FUN, LIST, 11, FUN, LIST, 12, FUN, LIST, 13, FUN, LIST, 14, FUN, LIST, 15, FUN, INT, 16, 16);
        infer(many + "LET f ( e , e ) ; f :: f f", MISMATCH);
        infer(many + "LET f ( e , e ) ; f :: NIL", ROOM);
        TinyMl again = new TinyMl();
        for (int turn = 0; turn < 3; turn++) {
            again.reset();
            Check.give(again, Check.tokens(many + "LET f ( e , e ) ; f :: f f"));
            Check.same("parse of many types", again.parse(), 0);
            Check.same("infer of many types", again.infer(), MISMATCH);
            again.reset();
            Check.give(again, Check.tokens("FUN a ( a , NIL )"));
            Check.same("parse of few types", again.parse(), 0);
            Check.same("infer of few types", again.infer(), 0);
            Check.same("few types behind many", Check.typeWords(again), FUN, 10, PAIR, 10, LIST, 11);
        }
    }

    // ---- what the type is told as -----------------------------------------------------------------------------

    private static void variablesInTheirOrder() {
        Check.sentence("WORDS of a type: a variable 10, 11, .. in the order in which they occur first");
        type("NIL", LIST, 10);
        type("FUN a FUN b ( b , a )", FUN, 10, FUN, 11, PAIR, 11, 10);
        type("FUN a FUN b FUN c FUN d FUN e FUN f FUN g NIL",
                FUN, 10, FUN, 11, FUN, 12, FUN, 13, FUN, 14, FUN, 15, FUN, 16, LIST, 17);
        type("LET a ( NIL , NIL ) ; LET b ( a , a ) ; ( b , b )",
                PAIR, PAIR, PAIR, LIST, 10, LIST, 11, PAIR, LIST, 12, LIST, 13,
                PAIR, PAIR, LIST, 14, LIST, 15, PAIR, LIST, 16, LIST, 17);
    }

    /** The type has 98 words before @ is put in. */
    private static final String HUNDRED = PAIRS + "LET d ( c , c ) ; LET e ( d , d ) ; ( ( e , d ) , ( 1 , @ ) )";

    private static void sizeOfTheType() {
        Check.sentence("8: how many words the type has; -1 when it is not TYPED");
        Check.same("typeSize of a new object", new TinyMl().typeSize(), -1);
        Check.same("typeSize when reading", Check.reading("1").typeSize(), -1);
        Check.same("typeSize when parsed", Check.parsed("1").typeSize(), -1);
        Check.same("typeSize when typed", Check.typed("1").typeSize(), 1);
        Check.same("typeSize of a pair", Check.typed("( 1 , NIL )").typeSize(), 4);
        TinyMl reset = Check.typed("1");
        reset.reset();
        Check.same("typeSize behind reset", reset.typeSize(), -1);
        Check.sentence("8: -2 when there are more than 100");
        Check.same("typeSize of 99", Check.typed(HUNDRED.replace("@", "1")).typeSize(), 99);
        Check.same("typeSize of 100", Check.typed(HUNDRED.replace("@", "NIL")).typeSize(), 100);
        Check.same("typeSize of 101", Check.typed(HUNDRED.replace("@", "( 1 , 1 )")).typeSize(), -2);
        Check.same("typeSize of many", Check.typed(
                PAIRS + "LET d ( c , c ) ; LET e ( d , d ) ; LET f ( e , e ) ; ( f , f )").typeSize(), -2);
    }

    private static void wordsOfTheType() {
        Check.sentence("9: word i of the type; throws NoSuchElementException when there is none");
        TinyMl one = Check.typed("TRUE");
        Check.same("word 0 of BOOL", one.typeAt(0), BOOL);
        noWords(one, 1, 2, 99, 100, -1, Integer.MAX_VALUE, Integer.MIN_VALUE);
        TinyMl two = Check.typed("1 :: NIL");
        Check.same("word 0 of LIST INT", two.typeAt(0), LIST);
        Check.same("word 1 of LIST INT", two.typeAt(1), INT);
        noWords(two, 2, 3, -1);
        TinyMl hundred = Check.typed(HUNDRED.replace("@", "NIL"));
        Check.same("word 99 of 100", hundred.typeAt(99), 10);
        noWords(hundred, 100, 101, -1);
        noWords(new TinyMl(), 0, -1, 1);
        noWords(Check.reading("1"), 0, -1, 1);
        noWords(Check.parsed("1"), 0, -1, 1);
        one.reset();
        noWords(one, 0, -1, 1);
    }

    private static void noWords(TinyMl ml, int... places) {
        int[] before = Check.state(ml);
        for (int i : places) {
            Check.throwsMissing("word " + i + " in phase " + ml.phase(), () -> ml.typeAt(i));
        }
        Check.same("state behind that", Check.state(ml), before);
    }

    private static void moreThanHundredWords() {
        Check.sentence("9: throws also when there are more than 100");
        TinyMl more = Check.typed(HUNDRED.replace("@", "( 1 , 1 )"));
        noWords(more, 0, 1, 50, 99, 100, 101, -1, -2);
        Check.same("phase of 101 words", more.phase(), 2);
        Check.same("run of 101 words", more.run(0), 1);
    }

    // ---- when a type is found ---------------------------------------------------------------------------------

    private static void inferOnlyWhenParsed() {
        Check.sentence("4: throws IllegalStateException when it is not PARSED");
        TinyMl refused = Check.reading("1 +");
        refused.parse();
        TinyMl done = Check.typed("1");
        done.run(400);
        TinyMl reset = Check.parsed("1");
        reset.reset();
        for (TinyMl ml : new TinyMl[] {new TinyMl(), Check.reading("1"), refused, reset, Check.typed("1"), done}) {
            int[] before = Check.state(ml);
            Check.throwsState("infer in phase " + ml.phase(), ml::infer);
            Check.same("state behind that", Check.state(ml), before);
        }
    }

    private static void faultsLeaveItParsed() {
        Check.sentence("4: 0 (it is TYPED then); otherwise it is not");
        String[] faulty = {"a", "1 + TRUE", "FUN a a a", PAIRS + "( c , c ) :: NIL"};
        for (int n = 0; n < faulty.length; n++) {
            TinyMl ml = Check.parsed(faulty[n]);
            for (int turn = 0; turn < 3; turn++) {
                Check.same("infer of " + faulty[n], ml.infer(), UNBOUND + n);
                Check.same("state behind infer of " + faulty[n], Check.state(ml), 1, -1, -1, 0, 0, 0);
                Check.throwsState("run behind infer of " + faulty[n], () -> ml.run(400));
            }
        }
    }
}
