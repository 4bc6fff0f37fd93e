/** Promise 3: parse. */
public final class ParseTest {
    public static void main(String[] args) {
        terms();
        faults();
        depth();
        depthAgainstFaults();
        height();
        stateAfterwards();
        order();
        Check.end("ParseTest");
    }

    private static void parse(String text, int due) {
        TinyMl ml = Check.reading(text);
        Check.same("parse of " + text, ml.parse(), due);
        Check.same("phase behind parse of " + text, ml.phase(), due == 0 ? 1 : 0);
    }

    private static String times(int n, String text) {
        return (text + " ").repeat(n);
    }

    private static void terms() {
        String[] terms = {"1", "a", "TRUE", "FALSE", "NIL", "1 2", "a b c d", "FST 1", "SND a", "FST FST SND 1",
            "FST ( 1 , 2 )", "( 1 )", "( 1 , 2 )", "( ( 1 , 2 ) , 3 )", "FUN a a", "FUN a FUN b a", "LET a 1 ; a",
            "REC a b 1 ; a", "IF 1 ; 2 ; 3", "MATCH 1 ; 2 ; a b 3", "1 + 2 - 3 * 4", "1 < 2", "1 = 2", "1 + 2 < 3 * 4",
            "1 :: 2 :: NIL", "1 < 2 :: NIL", "( FUN a a ) 1", "1 + ( IF 1 ; 2 ; 3 )", "FUN a LET b a ; IF b ; a ; b",
            "a FST b SND c", "LET a LET b 1 ; 2 ; 3", "IF IF 1 ; 2 ; 3 ; 4 ; 5", "( FUN a a , 1 )"};
        for (String term : terms) {
            parse(term, 0);
        }
    }

    private static void faults() {
        parse("", 1);
        parse(")", 1);
        parse("+ 1", 1);
        parse(";", 1);
        parse("1 )", 2);
        parse("1 ; 2", 2);
        parse("1 , 2", 2);
        parse("1 +", 3);
        parse("1 + )", 3);
        parse("1 + FUN a a", 3);
        parse("1 FUN a a", 2);
        parse("1 :: FUN a a", 3);
        parse("1 ::", 3);
        parse("1 < 2 < 3", 4);
        parse("1 < 2 = 3", 4);
        parse("1 :: 2 < 3 = 4", 6);
        parse("(", 2);
        parse("( )", 2);
        parse("( 1", 3);
        parse("( 1 ; 2 )", 3);
        parse("( 1 , )", 4);
        parse("( 1 , 2", 5);
        parse("( 1 , 2 , 3 )", 5);
        parse("FST", 2);
        parse("FST + 1", 2);
        parse("FST FUN a a", 2);
        parse("FUN", 2);
        parse("FUN 1 a", 2);
        parse("FUN a", 3);
        parse("FUN a )", 3);
        parse("FUN a ; a", 3);
        parse("LET 1 ; a", 2);
        parse("LET a 1", 4);
        parse("LET a 1 , a", 4);
        parse("LET a 1 ;", 5);
        parse("LET a 1 ; a ; 1", 6);
        parse("REC a 1 ; a", 3);
        parse("REC 1", 2);
        parse("REC a b 1", 5);
        parse("IF 1", 3);
        parse("IF 1 ; 2", 5);
        parse("IF 1 ; 2 ;", 6);
        parse("MATCH 1 ; 2", 5);
        parse("MATCH 1 ; 2 ; 3", 6);
        parse("MATCH 1 ; 2 ; a 3", 7);
        parse("MATCH 1 ; 2 ; a b", 8);
    }

    private static void depth() {
        parse(times(7, "(") + "1 " + times(7, ")"), 0);
        parse(times(8, "(") + "1 " + times(8, ")"), -1);
        parse(times(6, "(") + "( 1 , 2 ) " + times(6, ")"), 0);
        parse(times(7, "(") + "( 1 , 2 ) " + times(7, ")"), -1);
        parse(times(7, "FST") + "1", 0);
        parse(times(8, "SND") + "1", -1);
        parse(times(6, "FST") + "( 1 )", 0);
        parse(times(7, "FST") + "( 1 )", -1);
        parse(times(7, "1 ::") + "NIL", 0);
        parse(times(8, "1 ::") + "NIL", -1);
        parse(times(6, "1 ::") + "( 1 )", 0);
        parse(times(7, "1 ::") + "( 1 )", -1);
        parse(times(7, "FUN a") + "a", 0);
        parse(times(8, "FUN a") + "a", -1);
        parse(times(7, "LET a 1 ;") + "a", 0);
        parse(times(8, "LET a 1 ;") + "a", -1);
        parse(times(7, "LET a") + "1 " + times(7, "; a"), 0);
        parse(times(7, "REC a b 1 ;") + "a", 0);
        parse(times(8, "REC a b 1 ;") + "a", -1);
        parse(times(7, "IF 1 ; 1 ;") + "1", 0);
        parse(times(8, "IF 1 ; 1 ;") + "1", -1);
        parse(times(7, "MATCH 1 ; 1 ; a b") + "1", 0);
        parse(times(7, "MATCH 1 ; 1 ; a b") + "MATCH 1", -1);
        parse(times(7, "(") + "1 + 2 * 3 < 4 " + times(7, ")"), 0);
        parse("( ( ( ( ( ( ( 1 ) ) ) ) ) ) ) ( ( ( ( ( ( ( 1 ) ) ) ) ) ) )", 0);
    }

    /** Too deep as soon as what must come next lies there; a name lies no deeper than its FUN, LET or REC. */
    private static void depthAgainstFaults() {
        parse(times(8, "("), -1);
        parse(times(8, "(") + ")", -1);
        parse(times(8, "FST"), -1);
        parse(times(8, "FST") + ";", -1);
        parse(times(8, "1 ::"), -1);
        parse(times(8, "1 ::") + "+", -1);
        parse(times(7, "FUN a") + "IF", -1);
        parse(times(7, "FUN a") + "MATCH )", -1);
        parse(times(7, "FUN a") + "FUN", 16);
        parse(times(7, "FUN a") + "FUN 1", 16);
        parse(times(7, "FUN a") + "FUN a", -1);
        parse(times(7, "FUN a") + "LET a )", -1);
        parse(times(7, "FUN a") + "REC a 1", 17);
        parse(times(7, "FUN a") + "REC a a )", -1);
        parse(times(7, "FUN a") + ")", 15);
        parse("1 ) " + times(9, "("), 2);
        parse("( 1 ; " + times(9, "("), 3);
    }

    private static void height() {
        parse("1 " + times(15, "+ 1"), 0);
        parse("1 " + times(16, "+ 1"), -1);
        parse("1 " + times(15, "* 1"), 0);
        parse("1 " + times(16, "* 1"), -1);
        parse(times(16, "a"), 0);
        parse(times(17, "a"), -1);
        parse(times(60, "a"), -1);
        parse("( ( ( ( 1 ) ) ) ) " + times(15, "+ 1"), 0);
        parse("FUN a " + times(15, "a"), 0);
        parse("FUN a " + times(16, "a"), -1);
        parse("1 " + times(16, "+ 1") + ")", 34);
        parse("1 " + times(16, "+ 1") + "+", 35);
    }

    private static void stateAfterwards() {
        TinyMl deep = Check.reading(times(17, "a"));
        Check.same("parse of what is too high", deep.parse(), -1);
        Check.same("the same again", deep.parse(), -1);
        Check.same("token behind it", deep.token(14) ? 1 : 0, 1);
        Check.same("parse of that", deep.parse(), 19);
        TinyMl parsed = Check.parsed("1");
        Check.same("parse when parsed", Check.answer(parsed::parse), Check.STATE);
        TinyMl typed = Check.typed("1");
        Check.same("parse when typed", Check.answer(typed::parse), Check.STATE);
        Check.same("phase behind that", typed.phase(), 2);
    }

    /** What belongs together shows in the value. */
    private static void order() {
        value("1 - 2 - 3", -4);
        value("1 - 2 + 3", 2);
        value("2 + 3 * 4", 14);
        value("2 * 3 + 4", 10);
        value("2 * ( 3 + 4 )", 14);
        value("( FUN a FUN b a - b ) 7 2", 5);
        value("2 * ( FUN a a + 1 ) 4", 10);
        value("FST ( 3 , 4 ) + 5", 8);
        value("MATCH 1 + 2 :: NIL ; 0 ; a b a", 3);
        value("IF 1 + 1 < 3 ; 1 ; 0 - 1", 1);
        value("LET a 1 ; a + 1", 2);
        value("( FUN a a ) FST ( 6 , 7 )", 6);
        value("SND FST ( ( 1 , 2 ) , 3 )", 2);
    }

    private static void value(String text, int due) {
        TinyMl ml = Check.typed(text);
        Check.same("run of " + text, ml.run(400), 0);
        Check.same("value of " + text, Check.outWords(ml), 0, due);
    }
}
