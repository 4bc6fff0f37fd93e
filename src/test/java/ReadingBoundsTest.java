/** Promises 1 to 3 and the rules of terms: each sentence that tells a bound, on both of its sides. */
public final class ReadingBoundsTest {
    public static void main(String[] args) {
        newObject();
        whatIsNoToken();
        numbers();
        names();
        atMostSixty();
        sixtyMakeATerm();
        tokenOnlyWhileReading();
        placeOfTheFirstWrong();
        placeBehindAll();
        perhaps();
        anyNumberOfTimes();
        longestWay();
        sevenDeep();
        tooDeepBeforeTheNext();
        namesLieNoDeeper();
        deepOrWrongWhicheverComesFirst();
        notDeeper();
        sixteenHigh();
        leavesAreOneHigh();
        parenthesesAddNoHeight();
        heightComesLast();
        refusedParse();
        parseOnlyWhileReading();
        Check.end("ReadingBoundsTest");
    }

    private static void parse(String text, int due) {
        TinyMl ml = Check.reading(text);
        Check.same("parse of " + text, ml.parse(), due);
        Check.same("phase behind parse of " + text, ml.phase(), due == 0 ? 1 : 0);
    }

    private static void value(String text, int... words) {
        TinyMl ml = Check.typed(text);
        Check.same("run of " + text, ml.run(400), 0);
        Check.same("value of " + text, Check.outWords(ml), words);
    }

    private static String times(int n, String text) {
        return Check.times(n, text);
    }

    /** A sum of this height, which needs no depth. */
    private static String high(int height) {
        return "1" + " + 1".repeat(height - 1);
    }

    // ---- promise 1 --------------------------------------------------------------------------------------------

    private static void newObject() {
        Check.sentence("1: READING, without tokens");
        Check.same("phase of a new object", new TinyMl().phase(), 0);
        Check.same("state of a new object", Check.state(new TinyMl()), 0, -1, -1, 0, 0, 0);
        Check.same("parse of a new object", new TinyMl().parse(), 1);
        TinyMl ml = new TinyMl();
        for (int n = 1; n <= 60; n++) {
            Check.same("token " + n + " of a new object", ml.token(101), true);
        }
    }

    // ---- promise 2 --------------------------------------------------------------------------------------------

    private static void whatIsNoToken() {
        Check.sentence("2: false when it is none; tokens are 0 .. 29, and all from 100 on");
        TinyMl ml = new TinyMl();
        for (int t = -300; t <= 300; t++) {
            ml.reset();
            Check.same("token " + t, ml.token(t), t >= 0 && t <= 29 || t >= 100);
        }
        ml.reset();
        for (int t : new int[] {Integer.MIN_VALUE, Integer.MIN_VALUE + 100, Integer.MIN_VALUE + 129, -1, 30, 99}) {
            Check.same("token " + t, ml.token(t), false);
        }
        Check.same("parse behind tokens that are none", ml.parse(), 1);
        Check.same("token of the greatest number", ml.token(Integer.MAX_VALUE), true);
        Check.same("parse behind that", ml.parse(), 0);
    }

    private static void numbers() {
        Check.sentence("Terms: from 100 on the NUMBER that is 100 less");
        for (int t : new int[] {100, 101, 129, 200, Integer.MAX_VALUE - 1, Integer.MAX_VALUE}) {
            TinyMl ml = new TinyMl();
            Check.give(ml, new int[] {t});
            Check.same("parse of token " + t, ml.parse(), 0);
            Check.same("infer of token " + t, ml.infer(), 0);
            Check.same("run of token " + t, ml.run(1), 0);
            Check.same("value of token " + t, Check.outWords(ml), 0, t - 100);
        }
    }

    private static void names() {
        Check.sentence("Terms: 20 .. 29 the NAMES 0 .. 9");
        for (int t : new int[] {0, 1, 9, 11, 19, 20, 25, 29, 100, 120}) {
            TinyMl ml = new TinyMl();
            Check.give(ml, new int[] {4, t, 101});
            Check.same("parse of FUN with token " + t + " as its name", ml.parse(), t >= 20 && t <= 29 ? 0 : 2);
        }
        for (int x = 20; x <= 29; x++) {
            for (int y = 20; y <= 29; y++) {
                TinyMl ml = new TinyMl();
                Check.give(ml, new int[] {4, x, y});
                Check.same("parse of tokens 4, " + x + ", " + y, ml.parse(), 0);
                Check.same("infer of tokens 4, " + x + ", " + y, ml.infer(), x == y ? 0 : 1);
            }
        }
    }

    private static void atMostSixty() {
        Check.sentence("2: false when there are 60");
        TinyMl ml = new TinyMl();
        for (int n = 1; n <= 60; n++) {
            Check.same("token " + n, ml.token(n % 2 == 0 ? 14 : 101), true);
        }
        for (int t : new int[] {101, 14, 0, Integer.MAX_VALUE, 30, -1}) {
            Check.same("token 61, a " + t, ml.token(t), false);
        }
        Check.same("parse of 60 tokens, the last a +", ml.parse(), 61);
        Check.same("token 61 behind parse", ml.token(101), false);
        Check.same("parse once more", ml.parse(), 61);
        ml.reset();
        Check.same("token 1 behind reset", ml.token(101), true);
    }

    private static void sixtyMakeATerm() {
        Check.sentence("Terms: a row of at most 60 tokens is a TERM");
        String sixty = "IF FALSE ; " + high(15) + " ; " + high(14);
        Check.same("number of tokens of " + sixty, Check.tokens(sixty).length, 60);
        value(sixty, 0, 14);
        TinyMl ml = Check.reading(sixty);
        Check.same("token 61", ml.token(14), false);
        Check.same("parse of 60 tokens when a 61st was refused", ml.parse(), 0);
    }

    private static void tokenOnlyWhileReading() {
        Check.sentence("2: throws IllegalStateException when it is not READING");
        TinyMl full = Check.parsed("IF FALSE ; " + high(15) + " ; " + high(14));
        TinyMl done = Check.typed("1");
        done.run(400);
        for (TinyMl ml : new TinyMl[] {Check.parsed("1"), Check.typed("1"), done, full}) {
            int[] before = Check.state(ml);
            for (int t : new int[] {101, 14, 30, -1, Integer.MAX_VALUE, Integer.MIN_VALUE}) {
                Check.throwsState("token " + t + " in phase " + ml.phase(), () -> ml.token(t) ? 1 : 0);
            }
            Check.same("state behind that", Check.state(ml), before);
        }
        TinyMl refused = Check.reading("1 +");
        Check.same("parse of 1 +", refused.parse(), 3);
        Check.same("token behind a refused parse", refused.token(101), true);
    }

    // ---- promise 3 --------------------------------------------------------------------------------------------

    private static void placeOfTheFirstWrong() {
        Check.sentence("3: 1 + the place of the first token with which no term goes on so");
        parse("1", 0);
        parse(")", 1);
        parse("; ; ;", 1);
        parse("1 )", 2);
        parse("1 ) ) )", 2);
        parse("1 + + 1", 3);
        parse("( 1 , 2 , 3 )", 5);
        parse(times(29, "1 +") + "1 )", 60);
        parse(times(29, "1 +") + ") )", 59);
    }

    private static void placeBehindAll() {
        Check.sentence("3: 1 + their number, if what is missing is behind them");
        parse("", 1);
        parse("(", 2);
        parse("1 +", 3);
        parse("LET a 1", 4);
        parse("( " + times(29, "1 +"), 60);
        parse(times(30, "1 +"), 61);
        parse("( ( " + high(29) + " )", 61);
    }

    private static void perhaps() {
        Check.sentence("Terms: [ ] perhaps: a TEST has at most one < or =, and a LIST goes on behind ::");
        for (String first : new String[] {"<", "="}) {
            parse("1 " + first + " 2", 0);
            for (String second : new String[] {"<", "="}) {
                parse("1 " + first + " 2 " + second + " 3", 4);
                parse("( 1 " + first + " 2 ) " + second + " 3", 0);
                parse("1 " + first + " 2 :: 3 " + second + " 4", 0);
                parse("1 " + first + " 2 :: 3 " + second + " 4 < 5", 8);
            }
        }
        parse("1 :: 2", 0);
        parse("1 :: 2 :: 3", 0);
        parse("1 :: :: 2", 3);
    }

    private static void anyNumberOfTimes() {
        Check.sentence("Terms: { } any number of times, those on the left first");
        for (String sign : new String[] {"+ 1", "- 1", "* 1", "1"}) {
            for (int more : new int[] {0, 1, 2, 15}) {
                parse("1 " + times(more, sign), 0);
                parse("1 " + times(more, sign) + "+", 3 + more * Check.tokens(sign).length);
            }
        }
        value("9 - 1 - 1 - 1 + 2 - 3", 0, 5);
        value("2 * 3 * 4 * 5", 0, 120);
        value("( FUN a FUN b FUN c a - b - c ) 9 3 2", 0, 4);
    }

    private static void longestWay() {
        Check.sentence("Terms: the longest way counts, as far as tokens can go on");
        value("( FUN a a + 1 ) 2", 0, 3);
        value("LET a 1 ; a + 1", 0, 2);
        value("IF TRUE ; 1 ; 2 + 5", 0, 1);
        value("MATCH NIL ; 1 ; a b 2 + 5", 0, 1);
        value("REC a b b ; a 1 + 1", 0, 2);
        value("LET a 1 ; 2 :: NIL", 5, 0, 2, 4);
        value("( FUN a a :: NIL ) 1", 5, 0, 1, 4);
        value("FST ( FUN a a , 1 ) 7", 0, 7);
        parse("FUN a a ; 1", 4);
        parse("1 + IF TRUE ; 1 ; 2", 3);
    }

    // ---- how deep a term may lie ------------------------------------------------------------------------------

    /** What makes something lie 1 deeper; @ stands for it. */
    private static final String[] DEEPER = {"( @ )", "( @ , 1 )", "( 1 , @ )", "FST @", "SND @", "1 :: @", "FUN a @",
        "LET a @ ; 1", "LET a 1 ; @", "REC a b @ ; 1", "REC a b 1 ; @", "IF @ ; 1 ; 1", "IF 1 ; @ ; 1", "IF 1 ; 1 ; @",
        "MATCH @ ; 1 ; a b 1", "MATCH 1 ; @ ; a b 1", "MATCH 1 ; 1 ; a b @"};

    /** The form with the term in it, in so many parentheses that the term lies at this depth. */
    private static String deep(int depth, String form, String term) {
        return times(depth - 1, "(") + form.replace("@", term) + " " + times(depth - 1, ")");
    }

    private static void sevenDeep() {
        for (String form : DEEPER) {
            Check.sentence("Terms: nothing may lie more than 7 deep, as @ in " + form);
            parse(deep(6, form, "1"), 0);
            parse(deep(7, form, "1"), 0);
            parse(deep(8, form, "1"), -1);
            parse(deep(6, form, "( 1 )"), 0);
            parse(deep(7, form, "( 1 )"), -1);
        }
        Check.sentence("Terms: nothing may lie more than 7 deep, one kind in itself");
        parse(times(7, "FUN a") + "1", 0);
        parse(times(8, "FUN a") + "1", -1);
        parse(times(7, "1 ::") + "1", 0);
        parse(times(8, "1 ::") + "1", -1);
        parse(times(7, "FST") + "1", 0);
        parse(times(8, "FST") + "1", -1);
        parse(times(7, "LET a 1 ;") + "1", 0);
        parse(times(8, "LET a 1 ;") + "1", -1);
        parse(times(7, "IF") + "1 " + times(7, "; 1 ; 1"), 0);
        parse(times(8, "IF") + "1 " + times(8, "; 1 ; 1"), -1);
    }

    private static void tooDeepBeforeTheNext() {
        for (String form : DEEPER) {
            String before = times(7, "(") + form.substring(0, form.indexOf('@'));
            Check.sentence("3: -1 as soon as what must come next would lie too deep, whatever comes there: " + before);
            for (String next : new String[] {"", "1", "a", "(", ")", ";", "+", "FUN"}) {
                parse(before + next, -1);
            }
        }
    }

    private static void namesLieNoDeeper() {
        Check.sentence("3: -1 not before what must come next would lie too deep: a name would not");
        String seven = times(7, "(");
        for (String word : new String[] {"FUN", "LET", "REC"}) {
            parse(seven + word, 9);
            parse(seven + word + " 1", 9);
            parse(seven + word + " (", 9);
        }
        parse(seven + "REC a", 10);
        parse(seven + "REC a 1", 10);
        parse(seven, 8);
        parse(seven + ")", 8);
        parse(seven + "1", 9);
        parse(seven + "1 ;", 9);
    }

    private static void deepOrWrongWhicheverComesFirst() {
        Check.sentence("3: what lies too deep behind a wrong token, and before it");
        parse("1 ) " + times(8, "("), 2);
        parse("( ; " + times(8, "("), 2);
        parse("( 1 ; 1 ) " + times(8, "FST") + "1", 3);
        parse(times(8, "(") + "1 ) ) ;", -1);
        parse(times(8, "FST") + ";", -1);
        parse(times(7, "(") + "1 " + times(8, ")"), 16);
    }

    private static void notDeeper() {
        Check.sentence("Terms: what + - * < = and calls join lies where they stand");
        String[] terms = {"1 + 1", "1 - 1", "1 * 1", "1 < 1", "1 = 1", "1 1 1", "1 + 1 * 1 1 < 1 - 1"};
        for (String term : terms) {
            parse(deep(7, "( @ )", term), 0);
            parse(deep(8, "( @ )", term), -1);
        }
        parse(deep(7, "( @ )", "1") + "+ " + deep(7, "( @ )", "1"), 0);
        parse(deep(7, "( @ )", "1") + deep(7, "( @ )", "1"), 0);
    }

    // ---- how high a term may be -------------------------------------------------------------------------------

    /** Terms of one more kind each; @ stands for their highest part. */
    private static final String[] HIGHER = {"@ + 1", "1 + ( @ )", "@ - 1", "1 - ( @ )", "( @ ) * 1", "1 * ( @ )",
        "@ < 1", "1 < @", "@ = 1", "1 = @", "( @ ) 1", "1 ( @ )", "@ :: 1", "1 :: @", "FST ( @ )", "SND ( @ )",
        "( @ , 1 )", "( 1 , @ )", "FUN a @", "LET a @ ; 1", "LET a 1 ; @", "REC a b @ ; 1", "REC a b 1 ; @",
        "IF @ ; 1 ; 1", "IF 1 ; @ ; 1", "IF 1 ; 1 ; @", "MATCH @ ; 1 ; a b 1", "MATCH 1 ; @ ; a b 1",
        "MATCH 1 ; 1 ; a b @"};

    private static void sixteenHigh() {
        for (String form : HIGHER) {
            Check.sentence("Terms: a height of 1 more than the greatest of the parts, at most 16, as in " + form);
            parse(form.replace("@", high(14)), 0);
            parse(form.replace("@", high(15)), 0);
            parse(form.replace("@", high(16)), -1);
        }
    }

    private static void leavesAreOneHigh() {
        Check.sentence("Terms: the height is 1 for a number, TRUE, FALSE, NIL or a name");
        for (String leaf : new String[] {"1", "TRUE", "FALSE", "NIL", "a"}) {
            parse(leaf + " + 1".repeat(15), 0);
            parse(leaf + " + 1".repeat(16), -1);
        }
    }

    private static void parenthesesAddNoHeight() {
        Check.sentence("Terms: parentheses add nothing to the height");
        parse("( " + high(16) + " )", 0);
        parse("( " + high(17) + " )", -1);
        parse(deep(7, "( @ )", "1") + "+ 1 ".repeat(15), 0);
        parse(deep(7, "( @ )", high(16)), 0);
        parse(deep(7, "( @ )", high(17)), -1);
    }

    private static void heightComesLast() {
        Check.sentence("3: -1 when all is well but for the height");
        parse(high(16), 0);
        parse(high(17), -1);
        parse(high(17) + " )", 34);
        parse(high(17) + " +", 35);
        parse("( " + high(17), 35);
        parse("( " + high(17) + " ; 1", 35);
        parse(high(30), -1);
        parse(times(60, "a"), -1);
    }

    private static void refusedParse() {
        Check.sentence("3: it is PARSED only when the tokens are a term");
        for (String text : new String[] {"1 +", "1 ) 1", high(17), times(8, "FST")}) {
            TinyMl ml = Check.reading(text);
            int first = ml.parse();
            Check.same("parse of " + text + " is 0", first == 0, false);
            Check.same("state behind parse of " + text, Check.state(ml), 0, -1, -1, 0, 0, 0);
            Check.throwsState("infer behind parse of " + text, ml::infer);
            Check.throwsState("run behind parse of " + text, () -> ml.run(1));
            Check.same("parse once more of " + text, ml.parse(), first);
        }
        TinyMl more = Check.reading("1 +");
        Check.same("parse of 1 +", more.parse(), 3);
        Check.give(more, new int[] {102});
        Check.same("parse of 1 + 2", more.parse(), 0);
        Check.same("phase behind that", more.phase(), 1);
    }

    private static void parseOnlyWhileReading() {
        Check.sentence("3: throws IllegalStateException when it is not READING");
        TinyMl done = Check.typed("1");
        done.run(400);
        TinyMl faulty = Check.parsed("1 + TRUE");
        faulty.infer();
        for (TinyMl ml : new TinyMl[] {Check.parsed("1"), Check.typed("1"), done, faulty}) {
            int[] before = Check.state(ml);
            Check.throwsState("parse in phase " + ml.phase(), ml::parse);
            Check.same("state behind that", Check.state(ml), before);
        }
    }
}
