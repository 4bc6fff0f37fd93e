import java.util.Arrays;
import java.util.List;
import java.util.NoSuchElementException;
import java.util.function.IntSupplier;

/** What the tests share: terms written as words, and answers compared with those that are due. */
final class Check {
    private static final List<String> SIGNS = Arrays.asList(
            "(", ")", ",", ";", "FUN", "LET", "REC", "IF", "MATCH", "TRUE", "FALSE", "NIL", "FST", "SND",
            "+", "-", "*", "<", "=", "::");

    /** The answers of calls that throw; no call of the class answers them otherwise. */
    static final int STATE = -1001;
    static final int MISSING = -1002;
    static final int OTHER = -1003;

    private static int wrong = 0;
    private static int seen = 0;

    private Check() {
    }

    /** The tokens of a text such as "LET a 1 ; a + 2"; a .. j are the names, digits are numbers. */
    static int[] tokens(String text) {
        if (text.isBlank()) {
            return new int[0];
        }
        String[] words = text.trim().split("\\s+");
        int[] row = new int[words.length];
        for (int i = 0; i < words.length; i++) {
            row[i] = tokenOf(words[i]);
        }
        return row;
    }

    private static int tokenOf(String word) {
        int sign = SIGNS.indexOf(word);
        if (sign >= 0) {
            return sign;
        }
        if (word.length() == 1 && word.charAt(0) >= 'a' && word.charAt(0) <= 'j') {
            return 20 + word.charAt(0) - 'a';
        }
        return 100 + Integer.parseInt(word);
    }

    static String text(int[] tokens) {
        StringBuilder text = new StringBuilder();
        for (int t : tokens) {
            String word = t < 20 ? SIGNS.get(t) : t < 30 ? String.valueOf((char) ('a' + t - 20)) : String.valueOf(t - 100);
            text.append(text.length() == 0 ? "" : " ").append(word);
        }
        return text.toString();
    }

    /** A new object with these tokens; each must be taken. */
    static TinyMl reading(String text) {
        TinyMl ml = new TinyMl();
        give(ml, tokens(text));
        return ml;
    }

    static void give(TinyMl ml, int[] tokens) {
        for (int t : tokens) {
            same("token " + t, ml.token(t) ? 1 : 0, 1);
        }
    }

    static TinyMl parsed(String text) {
        TinyMl ml = reading(text);
        same("parse of " + text, ml.parse(), 0);
        return ml;
    }

    static TinyMl typed(String text) {
        TinyMl ml = parsed(text);
        same("infer of " + text, ml.infer(), 0);
        return ml;
    }

    static int[] typeWords(TinyMl ml) {
        int[] row = new int[Math.max(0, ml.typeSize())];
        for (int i = 0; i < row.length; i++) {
            row[i] = ml.typeAt(i);
        }
        return row;
    }

    static int[] outWords(TinyMl ml) {
        int[] row = new int[Math.max(0, ml.outSize())];
        for (int i = 0; i < row.length; i++) {
            row[i] = ml.outAt(i);
        }
        return row;
    }

    static void same(String what, int got, int due) {
        seen++;
        if (got != due) {
            wrong++;
            System.out.println(what + " answered " + got + ", due is " + due);
        }
    }

    static void same(String what, int[] got, int... due) {
        seen++;
        if (!Arrays.equals(got, due)) {
            wrong++;
            System.out.println(what + " answered " + Arrays.toString(got) + ", due is " + Arrays.toString(due));
        }
    }

    /** The answer of a call, or which exception it threw. */
    static int answer(IntSupplier call) {
        try {
            return call.getAsInt();
        } catch (IllegalStateException e) {
            return STATE;
        } catch (NoSuchElementException e) {
            return MISSING;
        } catch (RuntimeException e) {
            return OTHER;
        }
    }

    static void end(String test) {
        System.out.println(test + ": " + (seen - wrong) + " of " + seen + " answers as due");
        System.exit(wrong == 0 ? 0 : 1);
    }
}
