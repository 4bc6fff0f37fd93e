import java.util.ArrayList;
import java.util.List;
import java.util.Random;

/** Makes rows of tokens for OracleTest, the same ones for the same seed. */
final class Maker {
    private static final int INT = 0, BOOL = 1, LIST = 2, PAIR = 3, FUNCTION = 4;

    /** A type that a made term shall have. */
    private record Goal(int kind, Goal first, Goal second) {
    }

    private record Bound(int name, Goal goal) {
    }

    /** Terms that lie on a bound of the document, or 1 beyond it. */
    private static final String[] EDGES = {
        "IF FALSE ; 1" + " + 1".repeat(14) + " ; 1" + " + 1".repeat(13),
        "1" + " + 1".repeat(16),
        "( ( ( ( ( ( ( 1 , 2 ) ) ) ) ) ) )",
        "FUN a FUN b FUN c FUN d FUN e FUN f FUN g a",
        "LET b ( ( 1 , 1 ) , ( 1 , 1 ) ) ; LET c ( b , b ) ; FUN d IF TRUE ; d ; ( c , b :: NIL )",
        "LET b ( ( 1 , 1 ) , ( 1 , 1 ) ) ; LET c ( b , b ) ; ( FUN d 1 ) ( c , ( b , 1 ) )",
        "LET d FUN b ( ( b :: NIL ) :: NIL ) :: NIL ; LET e FUN b d ( d ( d ( d ( d b ) ) ) ) ; LET f d ( e NIL ) ; f",
        "LET d FUN b ( ( ( b :: NIL ) :: NIL ) :: NIL ) :: NIL ; LET e FUN b d ( d ( d ( d b ) ) ) ; "
            + "FUN f ( IF TRUE ; f ; d ( e 1 ) , f )",
        "REC a d d NIL NIL NIL NIL NIL 0 ; REC b d d a a a a a a a ; LET c ( b , b ) ; LET d ( c , c ) ; "
            + "IF TRUE ; d ; d",
        "LET b ( ( 1 , 1 ) , ( 1 , 1 ) ) ; LET c ( b , b ) ; LET d ( c , c ) ; LET e ( d , d ) ; "
            + "( ( e , d ) , ( 1 , NIL ) )",
        "LET a ( 1 , 1 ) ; LET b ( a , a ) ; LET c ( b , b ) ; LET d ( c , c ) ; ( ( d , d ) , ( NIL , 9 ) )",
        "REC a b IF b < 1 ; 0 ; a ( b - 1 ) ; a 43 + 1 + 1",
        "REC a b IF b < 1 ; 0 ; a ( b - SND ( ( FUN c c , FUN c c ) , 1 ) ) ; LET d a 24 ; 1 :: 1 :: 1 :: NIL",
        "REC a b IF b < 1 ; FST ( 1 , 1 ) ; 1 + a ( b - 1 ) ; a 13",
    };

    private final Random random;
    private final List<Integer> out = new ArrayList<>();

    Maker(long seed) {
        random = new Random(seed);
    }

    private int below(int n) {
        return random.nextInt(n);
    }

    private void put(int... tokens) {
        for (int t : tokens) {
            out.add(t);
        }
    }

    private int[] cut() {
        int[] row = new int[Math.min(60, out.size())];
        for (int i = 0; i < row.length; i++) {
            row[i] = out.get(i);
        }
        return row;
    }

    int[] next() {
        out.clear();
        switch (below(11)) {
            case 0:
                noise();
                return cut();
            case 10:
                near();
                return cut();
            case 1:
            case 2:
                loose(List.of(), 0);
                break;
            case 3:
                chain();
                break;
            case 4:
                dear();
                break;
            default:
                fitting();
        }
        if (below(6) == 0 && !out.isEmpty()) {
            mar();
        }
        return cut();
    }

    private void noise() {
        int length = below(12);
        for (int i = 0; i < length; i++) {
            put(anyToken());
        }
    }

    /** A term on a bound with up to three faults in it. */
    private void near() {
        put(Check.tokens(EDGES[below(EDGES.length)]));
        for (int faults = below(4); faults > 0 && !out.isEmpty(); faults--) {
            mar();
        }
    }

    private int anyToken() {
        int t = below(34);
        return t < 30 ? t : 100 + below(4);
    }

    private void mar() {
        int where = below(out.size());
        switch (below(4)) {
            case 0:
                out.remove(where);
                break;
            case 1:
                out.add(where, anyToken());
                break;
            case 2:
                out.set(where, anyToken());
                break;
            default:
                while (out.size() > where) {
                    out.remove(out.size() - 1);
                }
        }
    }

    // ---- terms by the rules alone, whose types seldom fit --------------------------------------------------

    private static List<Integer> with(List<Integer> names, int... more) {
        List<Integer> all = new ArrayList<>(names);
        for (int n : more) {
            all.add(n);
        }
        return all;
    }

    private boolean spare(int depth) {
        return out.size() < 38 && depth < 2 + below(4);
    }

    private void loose(List<Integer> names, int depth) {
        int x = below(4);
        int y = below(4);
        switch (spare(depth) ? below(11) : 10) {
            case 0:
            case 1:
            case 2:
                put(4, 20 + x);
                loose(with(names, x), depth + 1);
                break;
            case 3:
            case 4:
                put(5, 20 + x);
                loose(names, depth + 1);
                put(3);
                loose(with(names, x), depth + 1);
                break;
            case 5:
                put(6, 20 + x, 20 + y);
                loose(with(names, x, y), depth + 1);
                put(3);
                loose(with(names, x), depth + 1);
                break;
            case 6:
                put(7);
                loose(names, depth + 1);
                put(3);
                loose(names, depth + 1);
                put(3);
                loose(names, depth + 1);
                break;
            case 7:
                put(8);
                loose(names, depth + 1);
                put(3);
                loose(names, depth + 1);
                put(3, 20 + x, 20 + y);
                loose(with(names, x, y), depth + 1);
                break;
            case 8:
                looseAtom(names, depth);
                put(14 + below(6));
                looseAtom(names, depth);
                break;
            default:
                looseAtom(names, depth);
                for (int n = below(3); n > 0 && out.size() < 50; n--) {
                    looseAtom(names, depth);
                }
        }
    }

    private void looseAtom(List<Integer> names, int depth) {
        int way = spare(depth) ? below(9) : below(4);
        if (way < 3 && !names.isEmpty()) {
            put(20 + names.get(below(names.size())));
        } else if (way < 3) {
            put(below(12) == 0 ? 20 : 101);
        } else if (way == 3) {
            put(below(2) == 0 ? 100 + below(9) : 9 + below(3));
        } else if (way == 4) {
            put(12 + below(2));
            looseAtom(names, depth + 1);
        } else {
            put(0);
            loose(names, depth + 1);
            if (way == 5) {
                put(2);
                loose(names, depth + 1);
            }
            put(1);
        }
    }

    // ---- chains of LET, whose types grow --------------------------------------------------------------------

    private void chain() {
        int links = 2 + below(6);
        for (int n = 0; n < links; n++) {
            put(5, 20 + n);
            int before = n == 0 ? 100 + below(3) : 20 + below(n);
            int last = n == 0 ? 11 : 19 + n;
            switch (below(8)) {
                case 0:
                    put(0, last, 2, before, 1);
                    break;
                case 1:
                    put(0, last, 2, last, 1);
                    break;
                case 2:
                    put(4, 29, 0, 29, 2, last, 1);
                    break;
                case 3:
                    put(4, 28, 4, 29, last, below(2) == 0 ? 28 : 29);
                    break;
                case 4:
                    put(0, last, 19, 11, 1, 19, 11);
                    break;
                case 5:
                    put(4, 29, 4, 28, 4, 27, 4, 26, last);
                    break;
                case 6:
                    put(4, 29, last, 0, last, 29, 1);
                    break;
                default:
                    put(4, 29, 0, 29, 19, 11, 1, 19, 11);
            }
            put(3);
        }
        int end = 19 + links;
        switch (below(4)) {
            case 0:
                put(end);
                break;
            case 1:
                put(0, end, 2, end, 1);
                break;
            case 2:
                put(7, 9, 3, end, 3, end);
                break;
            default:
                put(end, end);
        }
    }

    // ---- terms that make many cells, or long values ---------------------------------------------------------

    private void dear() {
        if (below(2) == 0) {
            doubling();
            return;
        }
        put(6, 20, 21);
        if (below(2) == 0) {
            put(20, 0, 4, 22, 20 + below(3), 22, 1, 3);
        } else {
            put(20, 0, 4, 22, 22, 2, 4, 23, 20 + below(4), 1, 3);
        }
        put(20, 0, 4, 20, 20);
        if (below(2) == 0) {
            put(2, 4, 20, 20);
        }
        put(1);
    }

    private void doubling() {
        int links = 2 + below(6);
        put(5, 20, 0, 9 + below(3), 2, 100 + below(9), 1, 3);
        for (int n = 1; n < links; n++) {
            put(5, 20 + n, 0, 19 + n, 2, below(8) == 0 ? 20 : 19 + n, 1, 3);
        }
        put(19 + links);
    }

    // ---- terms whose types fit, for the most part -----------------------------------------------------------

    private void fitting() {
        if (below(3) == 0) {
            recursion();
        } else {
            fit(goal(2), List.of(), 0);
        }
    }

    /** Functions that call themselves, so that fuel, cells and nesting run out. */
    private void recursion() {
        Goal result = goal(1);
        Goal number = new Goal(INT, null, null);
        Bound self = new Bound(0, new Goal(FUNCTION, number, result));
        put(6, 20, 21);
        if (below(4) > 0) {
            put(7, 21, 17, 101, 3);
            fit(result, List.of(new Bound(1, number)), 2);
            put(3);
        }
        again(result, self, number);
        put(3);
        if (below(3) == 0) {
            fit(goal(1), List.of(self), 1);
        } else {
            put(20, 100 + below(below(2) == 0 ? 8 : 60));
        }
    }

    private void again(Goal result, Bound self, Goal number) {
        int[] call = {20, 0, 21, 15, 101, 1};
        switch (result.kind() == INT ? below(3) : result.kind() == LIST ? 3 + below(2) : 5 + below(3)) {
            case 0:
                put(call);
                break;
            case 1:
                put(101 + below(3), 14 + below(3));
                put(call);
                break;
            case 2:
                put(13, 0, 21, 2);
                put(call);
                put(1);
                break;
            case 3:
                put(0);
                fit(result.first(), List.of(self, new Bound(1, number)), 4);
                put(1, 19);
                put(call);
                break;
            case 4:
                put(8);
                put(call);
                put(3, 11, 3, 22, 23, 22, 19, 22, 19, 23);
                break;
            case 5:
                put(call);
                break;
            case 6:
                put(12, 0);
                put(call);
                put(2, 4, 22, 22, 1);
                break;
            default:
                put(5, 22);
                put(call);
                put(3, 22);
        }
    }

    private Goal goal(int rich) {
        int kind = rich > 0 ? below(6) : below(2);
        return switch (kind) {
            case LIST -> new Goal(LIST, goal(rich - 1), null);
            case PAIR -> new Goal(PAIR, goal(rich - 1), goal(rich - 1));
            case FUNCTION -> new Goal(FUNCTION, goal(rich - 1), goal(rich - 1));
            case BOOL -> new Goal(BOOL, null, null);
            default -> new Goal(INT, null, null);
        };
    }

    private static boolean same(Goal a, Goal b) {
        return a == b || a != null && b != null && a.kind() == b.kind() && same(a.first(), b.first())
                && same(a.second(), b.second());
    }

    private static List<Bound> also(List<Bound> around, int name, Goal goal) {
        List<Bound> all = new ArrayList<>();
        all.add(new Bound(name, goal));
        for (Bound b : around) {
            if (b.name() != name) {
                all.add(b);
            }
        }
        return all;
    }

    private void fit(Goal goal, List<Bound> around, int depth) {
        int x = below(6);
        int y = below(6);
        switch (spare(depth) ? below(9) : 8) {
            case 0:
            case 1: {
                Goal inner = goal(1);
                put(5, 20 + x);
                fit(inner, around, depth + 1);
                put(3);
                fit(goal, also(around, x, inner), depth + 1);
                break;
            }
            case 2:
                put(7);
                fit(new Goal(BOOL, null, null), around, depth + 1);
                put(3);
                fit(goal, around, depth + 1);
                put(3);
                fit(goal, around, depth + 1);
                break;
            case 3: {
                Goal element = goal(1);
                Goal list = new Goal(LIST, element, null);
                put(8);
                fit(list, around, depth + 1);
                put(3);
                fit(goal, around, depth + 1);
                put(3, 20 + x, 20 + y);
                fit(goal, also(also(around, x, element), y, list), depth + 1);
                break;
            }
            case 4: {
                Goal from = goal(1);
                Goal self = new Goal(FUNCTION, from, goal);
                put(6, 20 + x, 20 + y);
                fit(goal, also(also(around, x, self), y, from), depth + 1);
                put(3);
                fit(goal, also(around, x, self), depth + 1);
                break;
            }
            default:
                plain(goal, around, depth);
        }
    }

    private void plain(Goal goal, List<Bound> around, int depth) {
        boolean rich = spare(depth);
        if (rich && below(4) == 0) {
            Goal from = goal(1);
            fitAtom(new Goal(FUNCTION, from, goal), around, depth);
            fitAtom(from, around, depth);
            return;
        }
        if (rich && below(8) == 0) {
            Goal other = goal(1);
            boolean first = below(2) == 0;
            put(first ? 12 : 13);
            fitAtom(new Goal(PAIR, first ? goal : other, first ? other : goal), around, depth + 1);
            return;
        }
        if (rich && below(2) == 0) {
            if (goal.kind() == INT || goal.kind() == BOOL) {
                Goal number = new Goal(INT, null, null);
                fitAtom(number, around, depth);
                put(goal.kind() == INT ? 14 + below(3) : 17 + below(2));
                fitAtom(number, around, depth);
                return;
            }
            if (goal.kind() == LIST) {
                fitAtom(goal.first(), around, depth);
                put(19);
                fitAtom(goal, around, depth + 1);
                return;
            }
        }
        if (goal.kind() == FUNCTION && below(3) > 0) {
            int x = below(6);
            put(4, 20 + x);
            fit(goal.second(), also(around, x, goal.first()), depth + 1);
            return;
        }
        fitAtom(goal, around, depth);
    }

    private void fitAtom(Goal goal, List<Bound> around, int depth) {
        for (Bound b : around) {
            if (same(b.goal(), goal) && below(3) > 0) {
                put(20 + b.name());
                return;
            }
        }
        if (spare(depth) && below(3) == 0) {
            put(0);
            fit(goal, around, depth + 1);
            put(1);
            return;
        }
        switch (goal.kind()) {
            case INT -> put(below(20) == 0 ? Integer.MAX_VALUE - below(3) : 100 + below(6));
            case BOOL -> put(9 + below(2));
            case LIST -> put(11);
            case PAIR -> {
                put(0);
                fit(goal.first(), around, depth + 1);
                put(2);
                fit(goal.second(), around, depth + 1);
                put(1);
            }
            default -> {
                int x = below(6);
                put(0, 4, 20 + x);
                fit(goal.second(), also(around, x, goal.first()), depth + 2);
                put(1);
            }
        }
    }
}
