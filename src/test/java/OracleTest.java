import java.util.List;
import java.util.Map;
import java.util.TreeMap;

/** Promises 3 to 12 on many made terms, against another reading of the document. */
public final class OracleTest {
    private static final int[] FUELS = {400, 0, 1, 2, 7, 40, -5, 399, 100000};

    private final Map<String, Integer> seen = new TreeMap<>();
    private final TinyMl used = new TinyMl();

    public static void main(String[] args) {
        OracleTest test = new OracleTest();
        int many = args.length > 0 ? Integer.parseInt(args[0]) : 20000;
        long seed = args.length > 1 ? Long.parseLong(args[1]) : 1;
        Maker maker = new Maker(seed);
        for (int n = 0; n < many; n++) {
            test.compare(maker.next(), n % 3 == 0);
        }
        test.nothingLeftOut();
        if (args.length > 0) {
            System.out.println(test.seen);
        }
        Check.end("OracleTest");
    }

    private void count(String what) {
        seen.merge(what, 1, Integer::sum);
    }

    /** Without these the comparison would say little. */
    private void nothingLeftOut() {
        String[] due = {"parse -1", "parse 0", "parse more", "infer 0", "infer 1", "infer 2", "infer 3", "infer 4",
            "type too long", "run 0", "run 1", "run 2", "run 3", "out too long"};
        for (String what : due) {
            Check.same("there was " + what, seen.containsKey(what) ? 1 : 0, 1);
        }
    }

    private void compare(int[] tokens, boolean again) {
        TinyMl ml = again ? used : new TinyMl();
        ml.reset();
        Check.give(ml, tokens);
        String text = Check.text(tokens);
        int place = Oracle.place(tokens);
        Oracle.Term term = place == 0 ? Oracle.build(tokens) : null;
        int due = term != null && term.height() > 16 ? -1 : place;
        Check.same("parse of " + text, ml.parse(), due);
        Check.same("phase behind parse of " + text, ml.phase(), due == 0 ? 1 : 0);
        count("parse " + (due > 0 ? "more" : due));
        if (due == 0) {
            compareTypes(ml, term, text);
        }
    }

    private void compareTypes(TinyMl ml, Oracle.Term term, String text) {
        int due = 0;
        Oracle.Type type = null;
        try {
            type = new Oracle.Typing().find(term);
        } catch (Oracle.Fault fault) {
            due = fault.answer;
        }
        count("infer " + due);
        Check.same("infer of " + text, ml.infer(), due);
        Check.same("phase behind infer of " + text, ml.phase(), due == 0 ? 2 : 1);
        if (type == null) {
            Check.same("typeSize of " + text, ml.typeSize(), -1);
            return;
        }
        compareWords("type of " + text, Oracle.words(type), ml.typeSize(), Check.typeWords(ml));
        if (ml.typeSize() == -2) {
            count("type too long");
        }
        for (int fuel : FUELS) {
            compareRun(ml, term, text, fuel);
        }
    }

    private static void compareWords(String what, List<Integer> due, int size, int[] got) {
        if (due.size() > 100) {
            Check.same("size of " + what, size, -2);
            return;
        }
        Check.same("size of " + what, size, due.size());
        Check.same(what, got, due.stream().mapToInt(Integer::intValue).toArray());
    }

    private void compareRun(TinyMl ml, Oracle.Term term, String text, int fuel) {
        Oracle.Running due = new Oracle.Running(term, fuel);
        String what = "run " + fuel + " of " + text;
        count("run " + due.answer);
        Check.same(what, ml.run(fuel), due.answer);
        Check.same("fuel used by " + what, ml.used(0), due.spent);
        Check.same("cells used by " + what, ml.used(1), due.cells);
        Check.same("nesting of " + what, ml.used(2), due.nested);
        if (due.answer != 0) {
            Check.same("outSize of " + what, ml.outSize(), -1);
            return;
        }
        if (ml.outSize() == -2) {
            count("out too long");
        }
        compareWords("value of " + what, due.words, ml.outSize(), Check.outWords(ml));
    }
}
