/** Promises 5 and 10 to 12 and the values: each sentence that tells a bound, on both of its sides. */
public final class RunningBoundsTest {
    private static final int DONE = 0, FUEL = 1, DEEP = 2, CELLS = 3;

    public static void main(String[] args) {
        intsWrap();
        comparedAsInts();
        innermostCounts();
        namesAlike();
        oneOfTheFuelEach();
        enoughFuelAndOneLess();
        fuelBelowNone();
        fuelAboveTheMost();
        hundredCells();
        whatTakesNoCell();
        fuelBeforeTheCell();
        sixteenInOneAnother();
        inPlace();
        deepBeforeFuel();
        fromLeftToRight();
        oneBranchOnly();
        wordsOfValues();
        runOnlyWhenTyped();
        sizeOfTheValue();
        partsOfOneWord();
        moreThanHundredWords();
        wordsOfTheValue();
        latestRun();
        usedBeforeARun();
        usedByTheLatestRun();
        anotherWhat();
        Check.end("RunningBoundsTest");
    }

    private static void value(String text, int... words) {
        TinyMl ml = Check.typed(text);
        Check.same("run of " + text, ml.run(400), DONE);
        Check.same("value of " + text, Check.outWords(ml), words);
    }

    private static TinyMl run(String text, int fuel, int due) {
        TinyMl ml = Check.typed(text);
        Check.same("run " + fuel + " of " + text, ml.run(fuel), due);
        return ml;
    }

    private static void used(String text, TinyMl ml, int fuel, int cells, int nested) {
        Check.same("fuel of " + text, ml.used(0), fuel);
        Check.same("cells of " + text, ml.used(1), cells);
        Check.same("nesting of " + text, ml.used(2), nested);
    }

    // ---- numbers ----------------------------------------------------------------------------------------------

    /** The greatest int, and the least. */
    private static final String MOST = "( 2147483547 + 100 )";
    private static final String LEAST = "( 0 - 2147483547 - 101 )";

    private static void intsWrap() {
        Check.sentence("VALUES: numbers (ints, which wrap)");
        value(MOST, 0, Integer.MAX_VALUE);
        value(MOST + " + 1", 0, Integer.MIN_VALUE);
        value(LEAST, 0, Integer.MIN_VALUE);
        value(LEAST + " - 1", 0, Integer.MAX_VALUE);
        value(MOST + " * 2", 0, -2);
        value(LEAST + " * ( 0 - 1 )", 0, Integer.MIN_VALUE);
        value("65536 * 65536", 0, 0);
        value("65536 * 32768", 0, Integer.MIN_VALUE);
    }

    private static void comparedAsInts() {
        Check.sentence("VALUES: < and = of numbers, the least and the greatest too");
        value(LEAST + " < " + MOST, 1, 1);
        value(MOST + " < " + LEAST, 1, 0);
        value("1 < 2", 1, 1);
        value("2 < 2", 1, 0);
        value("2 < 1", 1, 0);
        value("2 = 2", 1, 1);
        value("2 = 1", 1, 0);
        value(MOST + " + 1 = " + LEAST, 1, 1);
        value("1000000 = 1000000", 1, 1);
    }

    // ---- names ------------------------------------------------------------------------------------------------

    private static void innermostCounts() {
        Check.sentence("NAMES: the innermost counts, where the function was made");
        value("LET a 1 ; LET b FUN c a ; LET a 2 ; b 0", 0, 1);
        value("LET a 1 ; LET a a + 1 ; a", 0, 2);
        value("LET a 1 ; ( FUN a a ) 2 + a", 0, 3);
        value("LET a 1 ; IF ( FUN a a = 2 ) 2 ; a ; 0", 0, 1);
        value("LET a 1 ; IF ( FUN a a = 3 ) 2 ; 0 ; a", 0, 1);
        value("LET a 1 ; MATCH ( FUN a NIL ) 2 ; a ; b c 0", 0, 1);
        value("LET a 1 ; MATCH ( FUN a a :: NIL ) 2 ; 0 ; b c a", 0, 1);
        value("LET a 1 ; ( REC b a a ; b 2 ) + a", 0, 3);
        value("LET a 1 ; ( MATCH 2 :: NIL ; 0 ; a b a ) + a", 0, 3);
        Check.sentence("NAMES: REC f x t ; u: f a function of x that may call itself");
        value("REC a b IF b < 1 ; 0 ; b + a ( b - 1 ) ; a 4", 0, 10);
        value("LET a FUN b 7 ; REC a b IF b < 1 ; 0 ; a ( b - 1 ) ; a 1", 0, 0);
        Check.sentence("NAMES: MATCH l ; t ; x y u: x and y in u");
        value("MATCH 1 :: 2 :: NIL ; ( 0 , NIL ) ; a b ( a , b )", 3, 0, 1, 5, 0, 2, 4);
        value("FST ( 1 , 2 )", 0, 1);
        value("SND ( 1 , 2 )", 0, 2);
    }

    private static void namesAlike() {
        Check.sentence("NAMES: for f x alike, x counts");
        value("REC a a a + 1 ; a 4", 0, 5);
        Check.sentence("NAMES: for x y alike, y counts");
        value("MATCH 1 :: 2 :: NIL ; NIL ; a a a", 5, 0, 2, 4);
    }

    // ---- fuel -------------------------------------------------------------------------------------------------

    private static void oneOfTheFuelEach() {
        Check.sentence("VALUES: to WORK OUT a term costs 1 of the FUEL");
        cost("1", 1);
        cost("( ( 1 ) )", 1);
        cost("TRUE", 1);
        cost("NIL", 1);
        cost("FUN a a + a", 1);
        cost("1 + 1", 3);
        cost("1 < 1", 3);
        cost("1 :: NIL", 3);
        cost("( 1 , 1 )", 3);
        cost("FST ( 1 , 1 )", 4);
        cost("LET a 1 ; a", 3);
        cost("REC a b a b ; 1", 2);
        cost("( FUN a a ) 1", 4);
        cost("( FUN a 1 + 1 ) 1", 6);
        cost("IF TRUE ; 1 ; 1 + 1", 3);
        cost("IF FALSE ; 1 ; 1 + 1", 5);
        cost("MATCH NIL ; 1 ; a b 1 + 1", 3);
        cost("MATCH 1 :: NIL ; 1 ; a b a + 1", 7);
    }

    private static void cost(String text, int fuel) {
        TinyMl ml = run(text, 400, DONE);
        Check.same("fuel of " + text, ml.used(0), fuel);
        Check.same("run of " + text + " with that", ml.run(fuel), DONE);
        Check.same("run of " + text + " with less", ml.run(fuel - 1), FUEL);
        Check.same("fuel of that", ml.used(0), fuel - 1);
    }

    private static void enoughFuelAndOneLess() {
        Check.sentence("VALUES: without any: FUEL");
        TinyMl ml = Check.typed("LET a FUN b b ; ( a 1 , a TRUE )");
        for (int fuel = 0; fuel <= 14; fuel++) {
            Check.same("run " + fuel, ml.run(fuel), fuel < 11 ? FUEL : DONE);
            Check.same("fuel of run " + fuel, ml.used(0), Math.min(fuel, 11));
            Check.same("outSize of run " + fuel, ml.outSize(), fuel < 11 ? -1 : 5);
        }
    }

    private static void fuelBelowNone() {
        Check.sentence("5: fuel below 0 counts as 0");
        for (int fuel : new int[] {0, -1, -400, Integer.MIN_VALUE}) {
            TinyMl ml = run("1", fuel, FUEL);
            Check.same("fuel of run " + fuel, ml.used(0), 0);
            Check.same("outSize of run " + fuel, ml.outSize(), -1);
        }
        Check.same("fuel of run 1", run("1", 1, DONE).used(0), 1);
    }

    /** Takes 9 of the fuel for each of the 43 turns, 400 in all. */
    private static final String FUEL_400 = "REC a b IF b < 1 ; 0 ; a ( b - 1 ) ; a 43 + 1 + 1";
    private static final String FUEL_401 = "REC c d d ; " + FUEL_400;

    private static void fuelAboveTheMost() {
        Check.sentence("5: fuel above 400 counts as 400");
        for (int fuel : new int[] {400, 401, 1000, Integer.MAX_VALUE}) {
            Check.same("fuel of run " + fuel, run(FUEL_400, fuel, DONE).used(0), 400);
            TinyMl more = run(FUEL_401, fuel, FUEL);
            Check.same("fuel of run " + fuel, more.used(0), 400);
            Check.same("outSize of run " + fuel, more.outSize(), -1);
        }
        Check.same("fuel of run 399", run(FUEL_400, 399, FUEL).used(0), 399);
    }

    // ---- cells ------------------------------------------------------------------------------------------------

    /** Takes 97 cells: 1 for REC, 4 for each of the 24 turns; @ stands for what comes then. */
    private static final String CELLS_97 =
            "REC a b IF b < 1 ; 0 ; a ( b - SND ( ( FUN c c , FUN c c ) , 1 ) ) ; LET d a 24 ; @";

    private static void hundredCells() {
        Check.sentence("VALUES: a pair takes a CELL; a 101st: CELLS");
        hundred("( 1 :: 1 :: NIL , 1 )", "( 1 :: 1 :: 1 :: NIL , 1 )");
        Check.sentence("VALUES: what :: makes takes a CELL; a 101st: CELLS");
        hundred("1 :: 1 :: 1 :: NIL", "1 :: 1 :: 1 :: 1 :: NIL");
        Check.sentence("VALUES: a function of FUN takes a CELL; a 101st: CELLS");
        hundred("LET d 1 :: 1 :: NIL ; FUN c c", "LET d 1 :: 1 :: 1 :: NIL ; FUN c c");
        Check.sentence("VALUES: a function of REC takes a CELL; a 101st: CELLS");
        hundred("LET d 1 :: 1 :: NIL ; REC e f f ; 1", "LET d 1 :: 1 :: 1 :: NIL ; REC e f f ; 1");
    }

    private static void hundred(String three, String four) {
        TinyMl ml = run(CELLS_97.replace("@", three), 400, DONE);
        Check.same("cells with " + three, ml.used(1), 100);
        TinyMl more = run(CELLS_97.replace("@", four), 400, CELLS);
        Check.same("cells with " + four, more.used(1), 100);
        Check.same("outSize with " + four, more.outSize(), -1);
    }

    private static void whatTakesNoCell() {
        Check.sentence("VALUES: only a pair, what :: makes and a function take a CELL");
        for (String text : new String[] {"1", "TRUE", "NIL", "1 + 2", "1 < 2", "LET a 1 ; a", "IF TRUE ; 1 ; 2",
            "MATCH NIL ; 1 ; a b 2"}) {
            Check.same("cells of " + text, run(text, 400, DONE).used(1), 0);
        }
        Check.same("cells of a call", run("( FUN a a ) 1", 400, DONE).used(1), 1);
        Check.same("cells of many calls", run("REC a b IF b < 1 ; 0 ; a ( b - 1 ) ; a 40", 400, DONE).used(1), 1);
        Check.same("cells of a pair taken apart", run("LET a ( 1 , 2 ) ; FST a + SND a", 400, DONE).used(1), 1);
        Check.same("cells of a list taken apart", run("MATCH 1 :: NIL ; 0 ; a b a", 400, DONE).used(1), 1);
        Check.same("cells of a pair in two places", run("LET a ( 1 , 2 ) ; ( a , a )", 400, DONE).used(1), 2);
    }

    private static void fuelBeforeTheCell() {
        Check.sentence("VALUES: the FUEL before all else, the cell when it is made");
        for (String four : new String[] {"LET d 1 :: 1 :: 1 :: NIL ; FUN c c", "LET d 1 :: 1 :: 1 :: NIL ; REC e f f ; 1"}) {
            TinyMl ml = run(CELLS_97.replace("@", four), 400, CELLS);
            int fuel = ml.used(0);
            Check.same("run with as much as it took", ml.run(fuel), CELLS);
            Check.same("run with less", ml.run(fuel - 1), FUEL);
            Check.same("cells of that", ml.used(1), 100);
        }
        String hundred = CELLS_97.replace("@", "LET d 1 :: 1 :: 1 :: NIL ; @");
        int leaf = run(hundred.replace("@", "1"), 400, DONE).used(0);
        Check.same("fuel of a function that is the 101st", run(hundred.replace("@", "FUN c c"), 400, CELLS).used(0), leaf);
        for (String two : new String[] {"( 1 , 1 )", "1 :: NIL"}) {
            TinyMl ml = run(hundred.replace("@", two), 400, CELLS);
            Check.same("fuel when the parts of " + two + " are there", ml.used(0), leaf + 2);
            Check.same("run when one part is not", ml.run(leaf + 1), FUEL);
            Check.same("run when no part is", ml.run(leaf), FUEL);
        }
        TinyMl pair = Check.typed("( 1 , 1 )");
        Check.same("run of a pair with its fuel alone", pair.run(2), FUEL);
        Check.same("cells of a pair whose parts are not there", pair.used(1), 0);
        Check.same("run of a pair", pair.run(3), DONE);
        Check.same("cells of a pair", pair.used(1), 1);
    }

    // ---- terms in one another ---------------------------------------------------------------------------------

    /** What stands for @ is worked out within 13 sums, so that it is the 14th. */
    private static final String FOURTEENTH = "REC a b IF b < 1 ; @ ; 1 + a ( b - 1 ) ; a 13";

    /** The first form lies 16 in one another there, the second one more. */
    private static void nested(String sixteen, String more) {
        TinyMl ml = run(FOURTEENTH.replace("@", sixteen), 400, DONE);
        Check.same("nesting with " + sixteen, ml.used(2), 16);
        TinyMl deep = run(FOURTEENTH.replace("@", more), 400, DEEP);
        Check.same("nesting with " + more, deep.used(2), 16);
        Check.same("outSize with " + more, deep.outSize(), -1);
    }

    private static void sixteenInOneAnother() {
        Check.sentence("VALUES: a part is worked out within its term; more than 16 in one another: DEEP");
        for (String sign : new String[] {"+", "-", "*"}) {
            nested("( 1 + 1 ) @ 1".replace("@", sign), "( 1 + 1 + 1 ) @ 1".replace("@", sign));
            nested("1 @ ( 1 + 1 )".replace("@", sign), "1 @ ( 1 + 1 + 1 )".replace("@", sign));
        }
        nested("FST ( 1 , 1 )", "FST ( 1 + 1 , 1 )");
        nested("SND ( 1 , 1 )", "SND ( 1 , 1 + 1 )");
        nested("LET c 1 + 1 ; 1", "LET c 1 + 1 + 1 ; 1");
        nested("IF 1 < 1 ; 1 ; 1", "IF 1 + 1 < 1 ; 1 ; 1");
        nested("IF 1 = 1 ; 1 ; 1", "IF 1 = 1 + 1 ; 1 ; 1");
        nested("MATCH 1 :: NIL ; 1 ; c d 1", "MATCH 1 + 1 :: NIL ; 1 ; c d 1");
        nested("MATCH 1 :: NIL ; 1 ; c d 1", "MATCH 1 :: 1 :: NIL ; 1 ; c d 1");
        nested("( IF TRUE ; FUN c 1 ; FUN c 2 ) 1", "( IF 1 < 1 ; FUN c 1 ; FUN c 2 ) 1");
        nested("( FUN c 1 ) ( 1 + 1 )", "( FUN c 1 ) ( 1 + 1 + 1 )");
        Check.sentence("VALUES: more than 16 in one another, by the height of a term alone");
        String sum = "1" + " + 1".repeat(15);
        Check.same("nesting of a term of height 16", run(sum, 400, DONE).used(2), 16);
        Check.same("nesting of a term of height 15", run(sum.substring(4), 400, DONE).used(2), 15);
        Check.same("nesting of a term of height 1", run("1", 400, DONE).used(2), 1);
    }

    private static void inPlace() {
        String three = "1 + 1 + 1";
        String four = "1 + 1 + 1 + 1";
        Check.sentence("NESTED: the body of a call in place of it");
        nested("( FUN c " + three + " ) 1", "( FUN c " + four + " ) 1");
        Check.same("nesting of calls in place", run(FUEL_400, 400, DONE).used(2), 5);
        Check.sentence("NESTED: u of LET and REC in place of it");
        nested("LET c 1 ; " + three, "LET c 1 ; " + four);
        nested("REC c d d ; " + three, "REC c d d ; " + four);
        Check.sentence("NESTED: the branch of IF and MATCH in place of it");
        nested("IF TRUE ; " + three + " ; 1", "IF TRUE ; " + four + " ; 1");
        nested("IF FALSE ; 1 ; " + three, "IF FALSE ; 1 ; " + four);
        nested("MATCH NIL ; " + three + " ; c d 1", "MATCH NIL ; " + four + " ; c d 1");
        nested("MATCH 1 :: NIL ; 1 ; c d " + three, "MATCH 1 :: NIL ; 1 ; c d " + four);
    }

    private static void deepBeforeFuel() {
        Check.sentence("VALUES: DEEP (looked at before the fuel)");
        TinyMl ml = run("REC a b 1 + a b ; a 1", 400, DEEP);
        int fuel = ml.used(0);
        Check.same("run with as much as it took", ml.run(fuel), DEEP);
        used("that", ml, fuel, 1, 16);
        Check.same("run with less", ml.run(fuel - 1), FUEL);
        Check.same("fuel of that", ml.used(0), fuel - 1);
        Check.sentence("VALUES: what lies too deep takes neither fuel nor a cell");
        TinyMl function = run(FOURTEENTH.replace("@", "FST ( 1 , FUN c 1 )"), 400, DONE);
        Check.same("cells of a function that is the 16th", function.used(1), 3);
        TinyMl deeper = run(FOURTEENTH.replace("@", "FST ( 1 , ( FUN c 1 , 1 ) )"), 400, DEEP);
        Check.same("cells of a function that would be the 17th", deeper.used(1), 1);
        Check.same("fuel of what lies deeper", deeper.used(0), function.used(0));
    }

    // ---- which terms are worked out, and in which order --------------------------------------------------------

    /** "a 1" ends DEEP here, "b ( FUN d d )" ends with CELLS. */
    private static final String BOTH = "REC a c 1 + a c ; REC b c b ( FUN d d ) ; ";

    /** X and Y stand for two terms of which the first ends the run. */
    private static void order(String form) {
        String deep = "( a 1 )";
        String cells = "( b ( FUN d d ) )";
        run(BOTH + form.replace("X", deep).replace("Y", cells), 400, DEEP);
        run(BOTH + form.replace("X", cells).replace("Y", deep), 400, CELLS);
    }

    private static void fromLeftToRight() {
        Check.sentence("VALUES: all parts are worked out from left to right");
        for (String form : new String[] {"( X , Y )", "X + Y", "X - Y", "X * Y", "X < Y", "X = Y"}) {
            order(form);
        }
        run(BOTH + "a 1 :: b ( FUN d d )", 400, DEEP);
        run(BOTH + "b ( FUN d d ) :: a 1 :: NIL", 400, CELLS);
        Check.sentence("VALUES: a call: the function, the argument, then the function's body");
        run(BOTH + "( b ( FUN d d ) ) ( a 1 )", 400, CELLS);
        order("( FUN e Y ) X");
        Check.sentence("VALUES: LET: t, then u");
        order("LET e X ; Y");
        Check.sentence("VALUES: IF, MATCH: the first, then one of the others");
        order("IF X < 1 ; Y ; Y");
        order("MATCH X :: NIL ; Y ; e f Y");
    }

    private static void oneBranchOnly() {
        Check.sentence("VALUES: IF, MATCH: one of the others");
        String deep = BOTH + "@";
        run(deep.replace("@", "IF TRUE ; 1 ; a 1"), 400, DONE);
        run(deep.replace("@", "IF FALSE ; 1 ; a 1"), 400, DEEP);
        run(deep.replace("@", "IF FALSE ; a 1 ; 1"), 400, DONE);
        run(deep.replace("@", "IF TRUE ; a 1 ; 1"), 400, DEEP);
        run(deep.replace("@", "MATCH NIL ; 1 ; e f a 1"), 400, DONE);
        run(deep.replace("@", "MATCH 1 :: NIL ; 1 ; e f a 1"), 400, DEEP);
        run(deep.replace("@", "MATCH 1 :: NIL ; a 1 ; e f 1"), 400, DONE);
        run(deep.replace("@", "MATCH NIL ; a 1 ; e f 1"), 400, DEEP);
        Check.sentence("VALUES: a function's body only when it is called");
        run(deep.replace("@", "FUN e a 1"), 400, DONE);
        run(deep.replace("@", "REC e f a 1 ; 1"), 400, DONE);
        run(deep.replace("@", "( FUN e a 1 ) 1"), 400, DEEP);
    }

    // ---- the value, and when there is one ----------------------------------------------------------------------

    private static void wordsOfValues() {
        Check.sentence("WORDS of a value");
        value("0", 0, 0);
        value("0 - 1", 0, -1);
        value("TRUE", 1, 1);
        value("FALSE", 1, 0);
        value("FUN a a", 2);
        value("REC a b b ; a", 2);
        value("( 1 , FALSE )", 3, 0, 1, 1, 0);
        value("NIL", 4);
        value("7 :: NIL", 5, 0, 7, 4);
        value("( NIL , FUN a a ) :: NIL", 5, 3, 4, 2, 4);
    }

    private static void runOnlyWhenTyped() {
        Check.sentence("5: throws IllegalStateException when it is not TYPED");
        TinyMl refused = Check.reading("1 +");
        refused.parse();
        TinyMl faulty = Check.parsed("1 + TRUE");
        faulty.infer();
        TinyMl reset = Check.typed("1");
        reset.run(400);
        reset.reset();
        for (TinyMl ml : new TinyMl[] {new TinyMl(), Check.reading("1"), refused, Check.parsed("1"), faulty, reset}) {
            int[] before = Check.state(ml);
            for (int fuel : new int[] {400, 0, -1, Integer.MAX_VALUE}) {
                Check.throwsState("run " + fuel + " in phase " + ml.phase(), () -> ml.run(fuel));
            }
            Check.same("state behind that", Check.state(ml), before);
        }
    }

    /** The value has 96 words before @ is put in. */
    private static final String HUNDRED = "LET a ( 1 , 1 ) ; LET b ( a , a ) ; LET c ( b , b ) ; LET d ( c , c ) ; "
            + "( ( d , d ) , @ )";

    private static void sizeOfTheValue() {
        Check.sentence("10: how many words the value has; -1 when there was no run");
        Check.same("outSize of a new object", new TinyMl().outSize(), -1);
        Check.same("outSize when reading", Check.reading("1").outSize(), -1);
        Check.same("outSize when parsed", Check.parsed("1").outSize(), -1);
        Check.same("outSize when typed", Check.typed("1").outSize(), -1);
        Check.same("outSize of NIL", run("NIL", 400, DONE).outSize(), 1);
        Check.same("outSize of 1", run("1", 400, DONE).outSize(), 2);
        Check.sentence("10: -1 when it was not DONE");
        Check.same("outSize of FUEL", run("1", 0, FUEL).outSize(), -1);
        Check.same("outSize of DEEP", run(BOTH + "a 1", 400, DEEP).outSize(), -1);
        Check.same("outSize of CELLS", run(BOTH + "b ( FUN d d )", 400, CELLS).outSize(), -1);
        Check.sentence("10: -2 when there are more than 100");
        Check.same("outSize of 99", run(HUNDRED.replace("@", "( NIL , NIL )"), 400, DONE).outSize(), 99);
        Check.same("outSize of 100", run(HUNDRED.replace("@", "( NIL , 9 )"), 400, DONE).outSize(), 100);
        Check.same("outSize of 101", run(HUNDRED.replace("@", "( 9 , 9 )"), 400, DONE).outSize(), -2);
        Check.same("outSize of 102", run(HUNDRED.replace("@", "( 9 , NIL :: NIL )"), 400, DONE).outSize(), -2);
        Check.same("outSize of many", run(HUNDRED.replace("@", "( ( d , d ) , ( d , d ) )"), 400, DONE).outSize(), -2);
    }

    /** The value has 96 words before @ is put in, and none of its parts has more than one of its own. */
    private static final String ONE_EACH = "LET a ( X , X ) ; LET b ( a , a ) ; LET c ( b , b ) ; LET d ( c , c ) ; "
            + "( ( d , d ) , ( d , @ ) )";

    private static void partsOfOneWord() {
        for (String leaf : new String[] {"NIL", "( FUN e e )"}) {
            Check.sentence("10, 11: 100 words and more, all in parts of one word, as " + leaf);
            String form = ONE_EACH.replace("X", leaf);
            TinyMl below = run(form.replace("@", "a"), 400, DONE);
            Check.same("outSize of 99", below.outSize(), 99);
            Check.same("word 98 of 99", below.outAt(98), leaf.equals("NIL") ? 4 : 2);
            noWords(below, 99, 100, -1);
            Check.same("outSize of 100", run(form.replace("@", "( NIL , TRUE )"), 400, DONE).outSize(), 100);
            for (String more : new String[] {"( NIL , a )", "( a , TRUE )", "b", "c", "d"}) {
                TinyMl above = run(form.replace("@", more), 400, DONE);
                Check.same("outSize with " + more, above.outSize(), -2);
                noWords(above, 0, 1, 98, 99, 100, 101, -1);
            }
        }
    }

    private static void wordsOfTheValue() {
        Check.sentence("11: word i of that; throws NoSuchElementException when there is none");
        TinyMl one = run("NIL", 400, DONE);
        Check.same("word 0 of NIL", one.outAt(0), 4);
        noWords(one, 1, 2, 99, 100, -1, Integer.MAX_VALUE, Integer.MIN_VALUE);
        TinyMl two = run("5", 400, DONE);
        Check.same("word 0 of 5", two.outAt(0), 0);
        Check.same("word 1 of 5", two.outAt(1), 5);
        noWords(two, 2, 3, -1);
        TinyMl hundred = run(HUNDRED.replace("@", "( NIL , 9 )"), 400, DONE);
        Check.same("word 98 of 100", hundred.outAt(98), 0);
        Check.same("word 99 of 100", hundred.outAt(99), 9);
        noWords(hundred, 100, 101, -1);
        TinyMl[] without = {new TinyMl(), Check.reading("1"), Check.parsed("1"), Check.typed("1"), run("1", 0, FUEL),
            run(BOTH + "a 1", 400, DEEP), run(BOTH + "b ( FUN d d )", 400, CELLS)};
        for (TinyMl ml : without) {
            noWords(ml, 0, 1, -1);
        }
    }

    private static void noWords(TinyMl ml, int... places) {
        int[] before = Check.state(ml);
        for (int i : places) {
            Check.throwsMissing("word " + i + " in phase " + ml.phase(), () -> ml.outAt(i));
        }
        Check.same("state behind that", Check.state(ml), before);
    }

    private static void moreThanHundredWords() {
        Check.sentence("11: throws also when there are more than 100");
        for (String rest : new String[] {"( 9 , 9 )", "( 9 , NIL :: NIL )", "( ( d , d ) , ( d , d ) )"}) {
            noWords(run(HUNDRED.replace("@", rest), 400, DONE), 0, 1, 50, 99, 100, 101, -1, -2);
        }
    }

    private static void latestRun() {
        Check.sentence("10, 11: of the latest run");
        TinyMl ml = run("1 + 2", 400, DONE);
        Check.same("value", Check.outWords(ml), 0, 3);
        Check.same("run with too little", ml.run(2), FUEL);
        Check.same("outSize behind that", ml.outSize(), -1);
        noWords(ml, 0, 1);
        Check.same("run once more", ml.run(3), DONE);
        Check.same("value once more", Check.outWords(ml), 0, 3);
        Check.sentence("10: since it was TYPED");
        ml.reset();
        Check.same("outSize behind reset", ml.outSize(), -1);
        Check.give(ml, new int[] {107});
        Check.same("parse of the next", ml.parse(), 0);
        Check.same("outSize of the next when parsed", ml.outSize(), -1);
        Check.same("infer of the next", ml.infer(), 0);
        Check.same("outSize of the next before a run", ml.outSize(), -1);
        noWords(ml, 0, 1);
    }

    // ---- promise 12 -------------------------------------------------------------------------------------------

    private static void usedBeforeARun() {
        Check.sentence("12: 0 before (since it was TYPED)");
        used("a new object", new TinyMl(), 0, 0, 0);
        used("what is read", Check.reading("( 1 , 2 )"), 0, 0, 0);
        used("what is parsed", Check.parsed("( 1 , 2 )"), 0, 0, 0);
        used("what is typed", Check.typed("( 1 , 2 )"), 0, 0, 0);
        TinyMl ml = run("( 1 , 2 )", 400, DONE);
        used("( 1 , 2 )", ml, 3, 1, 2);
        ml.reset();
        used("what is reset", ml, 0, 0, 0);
        Check.give(ml, new int[] {107});
        ml.parse();
        used("the next when parsed", ml, 0, 0, 0);
        ml.infer();
        used("the next when typed", ml, 0, 0, 0);
    }

    private static void usedByTheLatestRun() {
        Check.sentence("12: of the latest run, also when it was not DONE");
        TinyMl ml = run("LET a ( 1 , 2 + 3 ) ; 1", 400, DONE);
        used("run 400", ml, 7, 1, 4);
        ml.run(5);
        used("run 5", ml, 5, 0, 4);
        ml.run(1);
        Check.same("fuel of run 1", ml.used(0), 1);
        Check.same("cells of run 1", ml.used(1), 0);
        ml.run(400);
        used("run 400 once more", ml, 7, 1, 4);
        Check.sentence("12: the terms that lay in one another, looked at before the fuel");
        Check.same("nesting of run 0", run("1", 0, FUEL).used(2), 1);
        Check.same("nesting of run 1", run("1 + 1", 1, FUEL).used(2), 2);
        Check.sentence("12: how many terms lay in one another (16 at most)");
        Check.same("nesting of DEEP", run(BOTH + "a 1", 400, DEEP).used(2), 16);
        Check.same("cells of CELLS", run(BOTH + "b ( FUN d d )", 400, CELLS).used(1), 100);
    }

    private static void anotherWhat() {
        Check.sentence("12: -1 for another what");
        TinyMl done = run("( 1 , 2 )", 400, DONE);
        TinyMl[] all = {new TinyMl(), Check.reading("1"), Check.parsed("1"), Check.typed("1"), done};
        for (TinyMl ml : all) {
            for (int what : new int[] {-1, 3, 4, 100, -100, Integer.MAX_VALUE, Integer.MIN_VALUE}) {
                Check.same("used " + what + " in phase " + ml.phase(), ml.used(what), -1);
            }
        }
    }
}
