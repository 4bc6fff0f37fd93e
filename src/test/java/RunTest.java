/** Promises 5, 10, 11 and 12: run, outSize, outAt and used. */
public final class RunTest {
    public static void main(String[] args) {
        values();
        scopes();
        numbers();
        fuel();
        fuelThatRunsOut();
        cells();
        deep();
        inPlace();
        states();
        words();
        usedWhat();
        Check.end("RunTest");
    }

    private static void value(String text, int... words) {
        TinyMl ml = Check.typed(text);
        Check.same("run of " + text, ml.run(400), 0);
        Check.same("outSize of " + text, ml.outSize(), words.length);
        Check.same("value of " + text, Check.outWords(ml), words);
    }

    private static void used(String text, int fuel, int cells, int nested) {
        TinyMl ml = Check.typed(text);
        Check.same("run of " + text, ml.run(400), 0);
        Check.same("fuel of " + text, ml.used(0), fuel);
        Check.same("cells of " + text, ml.used(1), cells);
        Check.same("nesting of " + text, ml.used(2), nested);
    }

    private static void values() {
        value("7", 0, 7);
        value("TRUE", 1, 1);
        value("FALSE", 1, 0);
        value("NIL", 4);
        value("FUN a a", 2);
        value("REC a b b ; a", 2);
        value("( 1 , TRUE )", 3, 0, 1, 1, 1);
        value("1 :: 2 :: NIL", 5, 0, 1, 5, 0, 2, 4);
        value("( NIL , FUN a a ) :: NIL", 5, 3, 4, 2, 4);
        value("FST ( 1 , 2 )", 0, 1);
        value("SND ( 1 , 2 )", 0, 2);
        value("IF TRUE ; 1 ; 2", 0, 1);
        value("IF FALSE ; 1 ; 2", 0, 2);
        value("1 < 2", 1, 1);
        value("2 < 2", 1, 0);
        value("2 = 2", 1, 1);
        value("2 = 3", 1, 0);
        value("MATCH NIL ; 1 ; a b 2", 0, 1);
        value("MATCH 5 :: 6 :: NIL ; ( 0 , NIL ) ; a b ( a , b )", 3, 0, 5, 5, 0, 6, 4);
        value("( FUN a a + 1 ) 4", 0, 5);
        value("REC a b IF b < 1 ; 0 ; b + a ( b - 1 ) ; a 4", 0, 10);
        value("REC a b MATCH b ; NIL ; c d ( c + 1 ) :: a d ; a ( 1 :: 2 :: NIL )", 5, 0, 2, 5, 0, 3, 4);
    }

    private static void scopes() {
        value("LET a 1 ; LET b FUN c a ; LET a 2 ; b 0", 0, 1);
        value("LET a 1 ; LET a a + 1 ; a", 0, 2);
        value("( LET a 1 ; a ) + ( LET a 2 ; a )", 0, 3);
        value("REC a a a + 1 ; a 4", 0, 5);
        value("MATCH 1 :: NIL ; NIL ; a a a", 4);
        value("MATCH 1 :: 2 :: NIL ; 0 ; a b MATCH b ; 0 ; b c a + b", 0, 3);
        value("( FUN a FUN b a - b ) 5 3", 0, 2);
        value("LET a FUN b REC c d IF d < b ; d ; c ( d - b ) ; c ; a 3 11", 0, 2);
        value("LET a 7 ; REC a b b ; a 1", 0, 1);
    }

    private static void numbers() {
        value("0 - 1", 0, -1);
        value("2147483547", 0, 2147483547);
        value("2147483547 + 2147483547", 0, -202);
        value("2147483547 * 2147483547", 0, 10201);
        value("0 - 2147483547 - 101", 0, -2147483648);
        value("0 - 2147483547 - 102", 0, 2147483647);
        value("0 - 2147483547 - 102 < 0", 1, 0);
        value("0 - 1 < 0", 1, 1);
        value("1000 = 999 + 1", 1, 1);
    }

    private static void fuel() {
        used("1", 1, 0, 1);
        used("1 + 2", 3, 0, 2);
        used("FUN a a", 1, 1, 1);
        used("( FUN a a ) 1", 4, 1, 2);
        used("LET a 1 ; a", 3, 0, 2);
        used("REC a b b ; 1", 2, 1, 1);
        used("IF TRUE ; 1 ; 1 + 1", 3, 0, 2);
        used("IF FALSE ; 1 ; 1 + 1", 5, 0, 2);
        used("MATCH NIL ; 1 ; a b 2", 3, 0, 2);
        used("MATCH 1 :: NIL ; 1 ; a b a", 5, 1, 3);
        used("( 1 , 2 )", 3, 1, 2);
        used("1 :: NIL", 3, 1, 2);
        used("FST ( 1 , 2 )", 4, 1, 3);
        used("( ( ( 1 ) ) )", 1, 0, 1);
    }

    private static void fuelThatRunsOut() {
        TinyMl ml = Check.typed("LET a FUN b b ; ( a 1 , a TRUE )");
        int[] cellsBy = {0, 0, 1, 1, 1, 1, 1, 1, 1, 1, 1, 2};
        for (int fuel = 0; fuel <= 11; fuel++) {
            Check.same("run " + fuel, ml.run(fuel), fuel < 11 ? 1 : 0);
            Check.same("outSize of run " + fuel, ml.outSize(), fuel < 11 ? -1 : 5);
            Check.same("fuel of run " + fuel, ml.used(0), fuel);
            Check.same("cells of run " + fuel, ml.used(1), cellsBy[fuel]);
        }
        Check.same("run -1", ml.run(-1), 1);
        Check.same("fuel of run -1", ml.used(0), 0);
        Check.same("nesting of run -1: depth is looked at before the fuel", ml.used(2), 1);
        Check.same("run of the least", ml.run(Integer.MIN_VALUE), 1);
        Check.same("run of the most", ml.run(Integer.MAX_VALUE), 0);
        TinyMl endless = Check.typed("REC a b a b ; a 1");
        for (int fuel : new int[] {399, 400, 401, Integer.MAX_VALUE}) {
            Check.same("endless run " + fuel, endless.run(fuel), 1);
            Check.same("fuel of endless run " + fuel, endless.used(0), Math.min(fuel, 400));
            Check.same("nesting of endless run " + fuel, endless.used(2), 2);
            Check.same("cells of endless run " + fuel, endless.used(1), 1);
        }
    }

    private static final String FOUR_CELLS_EACH =
            "REC a b IF b < 1 ; 0 ; a ( b - SND ( ( FUN c c , FUN c c ) , 1 ) ) ; a 24 :: ";

    private static void cells() {
        used(FOUR_CELLS_EACH + "1 :: 1 :: NIL", 351, 100, 7);
        TinyMl more = Check.typed(FOUR_CELLS_EACH + "1 :: 1 :: 1 :: NIL");
        Check.same("run with 101 cells", more.run(400), 3);
        Check.same("cells of that", more.used(1), 100);
        Check.same("fuel of that", more.used(0), 353);
        Check.same("outSize of that", more.outSize(), -1);
        Check.same("the same with as much fuel as it took", more.run(353), 3);
        Check.same("the same with less", more.run(352), 1);
        TinyMl functions = Check.typed("REC a b a ( FUN c b c ) ; a ( FUN c c )");
        Check.same("run of endless functions", functions.run(400), 3);
        Check.same("cells of endless functions", functions.used(1), 100);
        TinyMl recursive = Check.typed("REC a b REC c d d ; IF TRUE ; a ( FUN e e ) ; 1 ; a ( FUN e e )");
        Check.same("run of endless REC", recursive.run(400), 3);
        Check.same("cells of endless REC", recursive.used(1), 100);
    }

    private static void deep() {
        String count = "REC a b IF b < 1 ; 0 ; 1 + a ( b - 1 ) ; a ";
        TinyMl sixteen = Check.typed(count + "13");
        Check.same("run of 16 in one another", sixteen.run(400), 0);
        Check.same("nesting of 16 in one another", sixteen.used(2), 16);
        TinyMl more = Check.typed(count + "14");
        Check.same("run of 17 in one another", more.run(400), 2);
        Check.same("nesting of 17 in one another", more.used(2), 16);
        Check.same("outSize of 17 in one another", more.outSize(), -1);
        int spent = more.used(0);
        Check.same("deep goes before fuel", more.run(spent), 2);
        Check.same("fuel of that", more.used(0), spent);
        Check.same("fuel that runs out before", more.run(spent - 1), 1);
        used("1 + 1 + 1 + 1 + 1 + 1 + 1 + 1 + 1 + 1 + 1 + 1 + 1 + 1 + 1 + 1", 31, 0, 16);
    }

    /** The body of a call, u of LET and REC, and branches lie where their term lies. */
    private static void inPlace() {
        used("LET a 1 ; LET b 1 ; LET c 1 ; LET d 1 ; a", 9, 0, 2);
        used("REC a b b ; REC c d d ; REC e f f ; 1", 4, 3, 1);
        used("IF TRUE ; IF TRUE ; IF TRUE ; 1 ; 2 ; 3 ; 4", 7, 0, 2);
        used("MATCH NIL ; MATCH NIL ; 1 ; a b 2 ; a b 3", 5, 0, 2);
        used("LET a FUN b b + b ; a 1", 8, 1, 2);
        used("LET a 1 + 1 ; a", 5, 0, 3);
        used("REC a b IF b < 1 ; 0 ; a ( b - 1 ) ; a 9", 90, 1, 3);
    }

    private static void states() {
        TinyMl reading = Check.reading("1");
        Check.same("run when reading", Check.answer(() -> reading.run(1)), Check.STATE);
        TinyMl parsed = Check.parsed("1");
        Check.same("run when parsed", Check.answer(() -> parsed.run(1)), Check.STATE);
        TinyMl faulty = Check.parsed("1 + TRUE");
        Check.same("infer of 1 + TRUE", faulty.infer(), 2);
        Check.same("run of 1 + TRUE", Check.answer(() -> faulty.run(1)), Check.STATE);
        TinyMl typed = Check.typed("1 + 2");
        Check.same("outSize before a run", typed.outSize(), -1);
        Check.same("outAt before a run", Check.answer(() -> typed.outAt(0)), Check.MISSING);
        Check.same("run", typed.run(3), 0);
        Check.same("phase behind a run", typed.phase(), 2);
        Check.same("outSize behind a run", typed.outSize(), 2);
        Check.same("run with too little", typed.run(2), 1);
        Check.same("outSize behind that", typed.outSize(), -1);
        Check.same("outAt behind that", Check.answer(() -> typed.outAt(0)), Check.MISSING);
        Check.same("run again", typed.run(400), 0);
        Check.same("value of that", Check.outWords(typed), 0, 3);
    }

    private static void words() {
        TinyMl two = Check.typed("5");
        two.run(1);
        Check.same("word 0", two.outAt(0), 0);
        Check.same("word 1", two.outAt(1), 5);
        for (int i : new int[] {2, 100, -1, Integer.MAX_VALUE, Integer.MIN_VALUE}) {
            Check.same("word " + i, Check.answer(() -> two.outAt(i)), Check.MISSING);
        }
        String chain = "LET a ( 1 , 1 ) ; LET b ( a , a ) ; LET c ( b , b ) ; LET d ( c , c ) ; ( ( d , d ) , ";
        TinyMl hundred = Check.typed(chain + "( NIL , 9 ) )");
        Check.same("run of 100 words", hundred.run(400), 0);
        Check.same("outSize of 100 words", hundred.outSize(), 100);
        Check.same("word 99", hundred.outAt(99), 9);
        Check.same("word 100", Check.answer(() -> hundred.outAt(100)), Check.MISSING);
        TinyMl more = Check.typed(chain + "( 9 , 9 ) )");
        Check.same("run of 101 words", more.run(400), 0);
        Check.same("outSize of 101 words", more.outSize(), -2);
        Check.same("word 0 of 101", Check.answer(() -> more.outAt(0)), Check.MISSING);
        Check.same("word 99 of 101", Check.answer(() -> more.outAt(99)), Check.MISSING);
    }

    private static void usedWhat() {
        TinyMl ml = Check.typed("( 1 , 2 )");
        for (int what = 0; what < 3; what++) {
            Check.same("used " + what + " before a run", ml.used(what), 0);
        }
        ml.run(400);
        for (int what : new int[] {-1, 3, 5, Integer.MAX_VALUE, Integer.MIN_VALUE}) {
            Check.same("used " + what, ml.used(what), -1);
            Check.same("used " + what + " of a new object", new TinyMl().used(what), -1);
        }
        Check.same("fuel", ml.used(0), 3);
        ml.run(2);
        Check.same("fuel of the latest run", ml.used(0), 2);
        Check.same("cells of the latest run", ml.used(1), 0);
    }
}
