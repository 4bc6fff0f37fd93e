/** Promise 3: which rows of tokens are terms, and what belongs together in them. */
public final class ParseTest {
    public static void main(String[] args) {
        terms();
        faults();
        order();
        whereATermStands();
        whereNoTermStands();
        whatBindsTighter();
        Check.end("ParseTest");
    }

    private static void parse(String text, int due) {
        TinyMl ml = Check.reading(text);
        Check.same("parse of " + text, ml.parse(), due);
        Check.same("phase behind parse of " + text, ml.phase(), due == 0 ? 1 : 0);
    }

    private static void terms() {
        String[] terms = {"1", "a", "TRUE", "FALSE", "NIL", "1 2", "a b c d", "FST 1", "SND a", "FST FST SND 1",
            "FST ( 1 , 2 )", "( 1 )", "( 1 , 2 )", "( ( 1 , 2 ) , 3 )", "FUN a a", "FUN a FUN b a", "LET a 1 ; a",
            "REC a b 1 ; a", "IF 1 ; 2 ; 3", "MATCH 1 ; 2 ; a b 3", "1 + 2 - 3 * 4", "1 < 2", "1 = 2", "1 + 2 < 3 * 4",
            "1 :: 2 :: NIL", "1 < 2 :: NIL", "( FUN a a ) 1", "1 + ( IF 1 ; 2 ; 3 )", "FUN a LET b a ; IF b ; a ; b",
            "a FST b SND c", "LET a LET b 1 ; 2 ; 3", "IF IF 1 ; 2 ; 3 ; 4 ; 5", "( FUN a a , 1 )"};
        for (String term : terms) {
            parse(term, 0);
        }
    }

    private static void faults() {
        parse("", 1);
        parse(")", 1);
        parse("+ 1", 1);
        parse(";", 1);
        parse("1 )", 2);
        parse("1 ; 2", 2);
        parse("1 , 2", 2);
        parse("1 +", 3);
        parse("1 + )", 3);
        parse("1 + FUN a a", 3);
        parse("1 FUN a a", 2);
        parse("1 :: FUN a a", 3);
        parse("1 ::", 3);
        parse("1 < 2 < 3", 4);
        parse("1 < 2 = 3", 4);
        parse("1 :: 2 < 3 = 4", 6);
        parse("(", 2);
        parse("( )", 2);
        parse("( 1", 3);
        parse("( 1 ; 2 )", 3);
        parse("( 1 , )", 4);
        parse("( 1 , 2", 5);
        parse("( 1 , 2 , 3 )", 5);
        parse("FST", 2);
        parse("FST + 1", 2);
        parse("FST FUN a a", 2);
        parse("FUN", 2);
        parse("FUN 1 a", 2);
        parse("FUN a", 3);
        parse("FUN a )", 3);
        parse("FUN a ; a", 3);
        parse("LET 1 ; a", 2);
        parse("LET a 1", 4);
        parse("LET a 1 , a", 4);
        parse("LET a 1 ;", 5);
        parse("LET a 1 ; a ; 1", 6);
        parse("REC a 1 ; a", 3);
        parse("REC 1", 2);
        parse("REC a b 1", 5);
        parse("IF 1", 3);
        parse("IF 1 ; 2", 5);
        parse("IF 1 ; 2 ;", 6);
        parse("MATCH 1 ; 2", 5);
        parse("MATCH 1 ; 2 ; 3", 6);
        parse("MATCH 1 ; 2 ; a 3", 7);
        parse("MATCH 1 ; 2 ; a b", 8);
    }

    /** What belongs together shows in the value. */
    private static void order() {
        value("1 - 2 - 3", -4);
        value("1 - 2 + 3", 2);
        value("2 + 3 * 4", 14);
        value("2 * 3 + 4", 10);
        value("2 * ( 3 + 4 )", 14);
        value("( FUN a FUN b a - b ) 7 2", 5);
        value("2 * ( FUN a a + 1 ) 4", 10);
        value("FST ( 3 , 4 ) + 5", 8);
        value("MATCH 1 + 2 :: NIL ; 0 ; a b a", 3);
        value("IF 1 + 1 < 3 ; 1 ; 0 - 1", 1);
        value("LET a 1 ; a + 1", 2);
        value("( FUN a a ) FST ( 6 , 7 )", 6);
        value("SND FST ( ( 1 , 2 ) , 3 )", 2);
    }

    private static void value(String text, int due) {
        words(text, 0, due);
    }

    private static void words(String text, int... due) {
        TinyMl ml = Check.typed(text);
        Check.same("run of " + text, ml.run(400), 0);
        Check.same("value of " + text, Check.outWords(ml), due);
    }

    /** What is joined first lies deeper in the whole: of products alone the value would not tell. */
    private static void leftFirst(String sign) {
        nested("1 @ 1 @ ( 1 + 1 )".replace("@", sign), 3);
        nested("1 @ ( 1 + 1 ) @ 1".replace("@", sign), 4);
        nested("( 1 + 1 ) @ 1 @ 1".replace("@", sign), 4);
        nested("1 @ ( 1 @ ( 1 + 1 ) )".replace("@", sign), 4);
    }

    private static void nested(String text, int due) {
        TinyMl ml = Check.typed(text);
        Check.same("run of " + text, ml.run(400), 0);
        Check.same("nesting of " + text, ml.used(2), due);
    }

    /** What is a TERM and nothing below it. */
    private static final String[] TERMS = {"FUN a 1", "LET a 1 ; 1", "REC a b 1 ; 1", "IF 1 ; 1 ; 1",
        "MATCH 1 ; 1 ; a b 1"};

    private static void whereATermStands() {
        String[] places = {"@", "( @ )", "( @ , 1 )", "( 1 , @ )", "FUN a @", "LET a @ ; 1", "LET a 1 ; @",
            "REC a b @ ; 1", "REC a b 1 ; @", "IF @ ; 1 ; 1", "IF 1 ; @ ; 1", "IF 1 ; 1 ; @", "MATCH @ ; 1 ; a b 1",
            "MATCH 1 ; @ ; a b 1", "MATCH 1 ; 1 ; a b @"};
        for (String place : places) {
            Check.sentence("Terms: a TERM, any of its kinds, as @ in " + place);
            for (String term : TERMS) {
                parse(place.replace("@", term), 0);
            }
            parse(place.replace("@", "1 :: 1"), 0);
            parse(place.replace("@", "1 < 1"), 0);
        }
    }

    private static void whereNoTermStands() {
        String[] places = {"FST @", "SND @", "1 @", "1 :: @", "1 < @", "1 = @", "1 + @", "1 - @", "1 * @"};
        for (String place : places) {
            Check.sentence("Terms: no TERM but what lies in parentheses, as @ in " + place);
            int first = Check.tokens(place.replace("@", "")).length;
            for (String term : TERMS) {
                parse(place.replace("@", term), 1 + first);
                parse(place.replace("@", "( " + term + " )"), 0);
            }
            for (String atom : new String[] {"1", "a", "TRUE", "FALSE", "NIL", "FST 1", "SND 1", "( 1 , 1 )"}) {
                parse(place.replace("@", atom), 0);
            }
        }
    }

    private static void whatBindsTighter() {
        Check.sentence("Terms: LIST: TEST [ :: LIST ]");
        words("1 < 2 :: 1 = 2 :: NIL", 5, 1, 1, 5, 1, 0, 4);
        words("1 :: 2 :: NIL", 5, 0, 1, 5, 0, 2, 4);
        Check.sentence("Terms: TEST: SUM [ < SUM, or = SUM ]");
        words("1 + 2 < 5 - 1", 1, 1);
        words("5 - 1 < 1 + 2", 1, 0);
        words("1 + 2 = 5 - 2", 1, 1);
        Check.sentence("Terms: SUM: PRODUCT { + PRODUCT, or - PRODUCT } (those on the left first)");
        value("1 + 2 * 3 - 4 * 5 + 6", -7);
        value("9 - 4 + 2", 7);
        value("9 - 4 - 2", 3);
        Check.sentence("Terms: PRODUCT: CALL { * CALL } (likewise)");
        value("( FUN a a + 1 ) 2 * ( FUN a a + 2 ) 3", 15);
        leftFirst("+");
        leftFirst("-");
        leftFirst("*");
        Check.sentence("Terms: CALL: ATOM { ATOM } (f a b is f a, applied to b)");
        value("( FUN a FUN b a - b ) 9 2", 7);
        value("( FUN a FUN b FUN c a - b * c ) FST ( 9 , 1 ) SND ( 1 , 2 ) ( 3 )", 3);
        Check.sentence("Terms: ATOM: FST ATOM, SND ATOM, ( TERM ), or ( TERM , TERM ), a PAIR");
        value("FST FST ( ( 1 , 2 ) , 3 )", 1);
        value("SND FST ( ( 1 , 2 ) , 3 ) + 4", 6);
        words("( ( 1 ) , ( 2 , 3 ) )", 3, 0, 1, 3, 0, 2, 0, 3);
    }
}
