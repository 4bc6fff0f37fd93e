import java.util.Arrays;
import java.util.List;
import java.util.NoSuchElementException;
import java.util.function.IntSupplier;
import java.util.stream.Stream;

/** What the tests share: terms written as words, and answers compared with those that are due. */
final class Check {
    private static final List<String> SIGNS = Arrays.asList(
            "(", ")", ",", ";", "FUN", "LET", "REC", "IF", "MATCH", "TRUE", "FALSE", "NIL", "FST", "SND",
            "+", "-", "*", "<", "=", "::");

    /** The answers of calls that throw; no call of the class answers them otherwise. */
    static final int STATE = -1001;
    static final int MISSING = -1002;
    static final int OTHER = -1003;

    private static int wrong = 0;
    private static int seen = 0;
    private static int sentences = 0;
    private static String sentence = "";

    private Check() {
    }

    /** The tokens of a text such as "LET a 1 ; a + 2"; a .. j are the names, digits are numbers. */
    static int[] tokens(String text) {
        if (text.isBlank()) {
            return new int[0];
        }
        String[] words = text.trim().split("\\s+");
        int[] row = new int[words.length];
        for (int i = 0; i < words.length; i++) {
            row[i] = tokenOf(words[i]);
        }
        return row;
    }

    private static int tokenOf(String word) {
        int sign = SIGNS.indexOf(word);
        if (sign >= 0) {
            return sign;
        }
        if (word.length() == 1 && word.charAt(0) >= 'a' && word.charAt(0) <= 'j') {
            return 20 + word.charAt(0) - 'a';
        }
        return 100 + Integer.parseInt(word);
    }

    static String text(int[] tokens) {
        StringBuilder text = new StringBuilder();
        for (int t : tokens) {
            String word = t < 20 ? SIGNS.get(t) : t < 30 ? String.valueOf((char) ('a' + t - 20)) : String.valueOf(t - 100);
            text.append(text.length() == 0 ? "" : " ").append(word);
        }
        return text.toString();
    }

    static String times(int n, String text) {
        return (text + " ").repeat(n);
    }

    /** The sentence of the document that the answers from here on are due by; it is told with a wrong one. */
    static void sentence(String words) {
        sentences++;
        sentence = words;
    }

    /** A new object with these tokens; each must be taken. */
    static TinyMl reading(String text) {
        TinyMl ml = new TinyMl();
        give(ml, tokens(text));
        return ml;
    }

    static void give(TinyMl ml, int[] tokens) {
        for (int t : tokens) {
            same("token " + t, ml.token(t) ? 1 : 0, 1);
        }
    }

    static TinyMl parsed(String text) {
        TinyMl ml = reading(text);
        same("parse of " + text, ml.parse(), 0);
        return ml;
    }

    static TinyMl typed(String text) {
        TinyMl ml = parsed(text);
        same("infer of " + text, ml.infer(), 0);
        return ml;
    }

    static int[] typeWords(TinyMl ml) {
        int[] row = new int[Math.max(0, ml.typeSize())];
        for (int i = 0; i < row.length; i++) {
            row[i] = ml.typeAt(i);
        }
        return row;
    }

    static int[] outWords(TinyMl ml) {
        int[] row = new int[Math.max(0, ml.outSize())];
        for (int i = 0; i < row.length; i++) {
            row[i] = ml.outAt(i);
        }
        return row;
    }

    /** All that an object tells of itself without being changed. */
    static int[] state(TinyMl ml) {
        int[] told = {ml.phase(), ml.typeSize(), ml.outSize(), ml.used(0), ml.used(1), ml.used(2)};
        return Stream.of(told, typeWords(ml), outWords(ml)).flatMapToInt(Arrays::stream).toArray();
    }

    static void same(String what, int got, int due) {
        seen++;
        if (got != due) {
            tell(what + " answered " + got + ", due is " + due);
        }
    }

    static void same(String what, int[] got, int... due) {
        seen++;
        if (!Arrays.equals(got, due)) {
            tell(what + " answered " + Arrays.toString(got) + ", due is " + Arrays.toString(due));
        }
    }

    private static void tell(String fault) {
        wrong++;
        System.out.println(sentence.isEmpty() ? fault : fault + " (" + sentence + ")");
    }

    static void same(String what, boolean got, boolean due) {
        same(what, got ? 1 : 0, due ? 1 : 0);
    }

    static void throwsState(String what, IntSupplier call) {
        same(what, answer(call), STATE);
    }

    static void throwsMissing(String what, IntSupplier call) {
        same(what, answer(call), MISSING);
    }

    /** The answer of a call, or which exception it threw. */
    static int answer(IntSupplier call) {
        try {
            return call.getAsInt();
        } catch (IllegalStateException e) {
            return STATE;
        } catch (NoSuchElementException e) {
            return MISSING;
        } catch (RuntimeException e) {
            return OTHER;
        }
    }

    static void end(String test) {
        String by = sentences == 0 ? "" : " by " + sentences + " sentences";
        System.out.println(test + ": " + (seen - wrong) + " of " + seen + " answers as due" + by);
        System.exit(wrong == 0 ? 0 : 1);
    }
}
