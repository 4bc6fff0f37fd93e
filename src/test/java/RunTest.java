/** Promises 5 and 10 to 12: the values that terms have, and what it takes to work them out. */
public final class RunTest {
    public static void main(String[] args) {
        values();
        scopes();
        numbers();
        fuel();
        fuelThatRunsOut();
        inPlace();
        Check.end("RunTest");
    }

    private static void value(String text, int... words) {
        TinyMl ml = Check.typed(text);
        Check.same("run of " + text, ml.run(400), 0);
        Check.same("outSize of " + text, ml.outSize(), words.length);
        Check.same("value of " + text, Check.outWords(ml), words);
    }

    private static void used(String text, int fuel, int cells, int nested) {
        TinyMl ml = Check.typed(text);
        Check.same("run of " + text, ml.run(400), 0);
        Check.same("fuel of " + text, ml.used(0), fuel);
        Check.same("cells of " + text, ml.used(1), cells);
        Check.same("nesting of " + text, ml.used(2), nested);
    }

    private static void values() {
        value("7", 0, 7);
        value("TRUE", 1, 1);
        value("FALSE", 1, 0);
        value("NIL", 4);
        value("FUN a a", 2);
        value("REC a b b ; a", 2);
        value("( 1 , TRUE )", 3, 0, 1, 1, 1);
        value("1 :: 2 :: NIL", 5, 0, 1, 5, 0, 2, 4);
        value("( NIL , FUN a a ) :: NIL", 5, 3, 4, 2, 4);
        value("FST ( 1 , 2 )", 0, 1);
        value("SND ( 1 , 2 )", 0, 2);
        value("IF TRUE ; 1 ; 2", 0, 1);
        value("IF FALSE ; 1 ; 2", 0, 2);
        value("1 < 2", 1, 1);
        value("2 < 2", 1, 0);
        value("2 = 2", 1, 1);
        value("2 = 3", 1, 0);
        value("MATCH NIL ; 1 ; a b 2", 0, 1);
        value("MATCH 5 :: 6 :: NIL ; ( 0 , NIL ) ; a b ( a , b )", 3, 0, 5, 5, 0, 6, 4);
        value("( FUN a a + 1 ) 4", 0, 5);
        value("REC a b IF b < 1 ; 0 ; b + a ( b - 1 ) ; a 4", 0, 10);
        value("REC a b MATCH b ; NIL ; c d ( c + 1 ) :: a d ; a ( 1 :: 2 :: NIL )", 5, 0, 2, 5, 0, 3, 4);
    }

    private static void scopes() {
        value("LET a 1 ; LET b FUN c a ; LET a 2 ; b 0", 0, 1);
        value("LET a 1 ; LET a a + 1 ; a", 0, 2);
        value("( LET a 1 ; a ) + ( LET a 2 ; a )", 0, 3);
        value("REC a a a + 1 ; a 4", 0, 5);
        value("MATCH 1 :: NIL ; NIL ; a a a", 4);
        value("MATCH 1 :: 2 :: NIL ; 0 ; a b MATCH b ; 0 ; b c a + b", 0, 3);
        value("( FUN a FUN b a - b ) 5 3", 0, 2);
        value("LET a FUN b REC c d IF d < b ; d ; c ( d - b ) ; c ; a 3 11", 0, 2);
        value("LET a 7 ; REC a b b ; a 1", 0, 1);
    }

    private static void numbers() {
        value("0 - 1", 0, -1);
        value("2147483547", 0, 2147483547);
        value("2147483547 + 2147483547", 0, -202);
        value("2147483547 * 2147483547", 0, 10201);
        value("0 - 2147483547 - 101", 0, -2147483648);
        value("0 - 2147483547 - 102", 0, 2147483647);
        value("0 - 2147483547 - 102 < 0", 1, 0);
        value("0 - 1 < 0", 1, 1);
        value("1000 = 999 + 1", 1, 1);
    }

    private static void fuel() {
        used("1", 1, 0, 1);
        used("1 + 2", 3, 0, 2);
        used("FUN a a", 1, 1, 1);
        used("( FUN a a ) 1", 4, 1, 2);
        used("LET a 1 ; a", 3, 0, 2);
        used("REC a b b ; 1", 2, 1, 1);
        used("IF TRUE ; 1 ; 1 + 1", 3, 0, 2);
        used("IF FALSE ; 1 ; 1 + 1", 5, 0, 2);
        used("MATCH NIL ; 1 ; a b 2", 3, 0, 2);
        used("MATCH 1 :: NIL ; 1 ; a b a", 5, 1, 3);
        used("( 1 , 2 )", 3, 1, 2);
        used("1 :: NIL", 3, 1, 2);
        used("FST ( 1 , 2 )", 4, 1, 3);
        used("( ( ( 1 ) ) )", 1, 0, 1);
    }

    private static void fuelThatRunsOut() {
        TinyMl ml = Check.typed("LET a FUN b b ; ( a 1 , a TRUE )");
        int[] cellsBy = {0, 0, 1, 1, 1, 1, 1, 1, 1, 1, 1, 2};
        for (int fuel = 0; fuel <= 11; fuel++) {
            Check.same("run " + fuel, ml.run(fuel), fuel < 11 ? 1 : 0);
            Check.same("outSize of run " + fuel, ml.outSize(), fuel < 11 ? -1 : 5);
            Check.same("fuel of run " + fuel, ml.used(0), fuel);
            Check.same("cells of run " + fuel, ml.used(1), cellsBy[fuel]);
        }
        Check.same("run -1", ml.run(-1), 1);
        Check.same("fuel of run -1", ml.used(0), 0);
        Check.same("nesting of run -1: depth is looked at before the fuel", ml.used(2), 1);
        Check.same("run of the least", ml.run(Integer.MIN_VALUE), 1);
        Check.same("run of the most", ml.run(Integer.MAX_VALUE), 0);
        TinyMl endless = Check.typed("REC a b a b ; a 1");
        for (int fuel : new int[] {399, 400, 401, Integer.MAX_VALUE}) {
            Check.same("endless run " + fuel, endless.run(fuel), 1);
            Check.same("fuel of endless run " + fuel, endless.used(0), Math.min(fuel, 400));
            Check.same("nesting of endless run " + fuel, endless.used(2), 2);
            Check.same("cells of endless run " + fuel, endless.used(1), 1);
        }
    }

    /** The body of a call, u of LET and REC, and branches lie where their term lies. */
    private static void inPlace() {
        used("LET a 1 ; LET b 1 ; LET c 1 ; LET d 1 ; a", 9, 0, 2);
        used("REC a b b ; REC c d d ; REC e f f ; 1", 4, 3, 1);
        used("IF TRUE ; IF TRUE ; IF TRUE ; 1 ; 2 ; 3 ; 4", 7, 0, 2);
        used("MATCH NIL ; MATCH NIL ; 1 ; a b 2 ; a b 3", 5, 0, 2);
        used("LET a FUN b b + b ; a 1", 8, 1, 2);
        used("LET a 1 + 1 ; a", 5, 0, 3);
        used("REC a b IF b < 1 ; 0 ; a ( b - 1 ) ; a 9", 90, 1, 3);
    }
}
