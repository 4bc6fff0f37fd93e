import java.util.ArrayList;
import java.util.HashMap;
import java.util.HashSet;
import java.util.LinkedHashMap;
import java.util.LinkedHashSet;
import java.util.List;
import java.util.Map;
import java.util.Set;

/**
 * The document once more, in another way and without care for cost: the rules of terms as a set of open
 * stacks, types as trees that are written out anew, values as objects. OracleTest compares the class with it.
 */
final class Oracle {
    static final int OPEN = 0, CLOSE = 1, COMMA = 2, SEMICOLON = 3, FUN = 4, LET = 5, REC = 6, IF = 7, MATCH = 8,
            TRUE = 9, FALSE = 10, NIL = 11, FST = 12, SND = 13, PLUS = 14, MINUS = 15, TIMES = 16, LESS = 17,
            EQUAL = 18, CONS = 19;

    private Oracle() {
    }

    // ---- the rules of terms -------------------------------------------------------------------------------

    private enum Rule { TERM, LIST, MORE_LIST, TEST, MORE_TEST, SUM, MORE_SUM, PRODUCT, MORE_PRODUCT, CALL, MORE_CALL,
        ATOM, NAME, NUMBER, TOKEN }

    /** A symbol that is still due; depth for a rule, the token itself for TOKEN. */
    private record Due(Rule rule, int at, Due then) {
    }

    /** What parse answers, but for the height. */
    static int place(int[] tokens) {
        Set<Due> open = expanded(List.of(new Due(Rule.TERM, 0, END)));
        for (int i = 0; i <= tokens.length; i++) {
            if (open.stream().anyMatch(due -> tooDeep(due))) {
                return -1;
            }
            if (i == tokens.length) {
                return open.contains(END) ? 0 : 1 + i;
            }
            List<Due> next = new ArrayList<>();
            for (Due due : open) {
                if (due != END && matches(due, tokens[i])) {
                    next.add(due.then());
                }
            }
            if (next.isEmpty()) {
                return 1 + i;
            }
            open = expanded(next);
        }
        throw new IllegalStateException("not reached");
    }

    private static final Due END = new Due(Rule.TOKEN, -1, null);

    private static boolean terminal(Due due) {
        return due.rule() == Rule.TOKEN || due.rule() == Rule.NAME || due.rule() == Rule.NUMBER;
    }

    private static boolean tooDeep(Due due) {
        return !terminal(due) && due.at() > 7;
    }

    private static boolean matches(Due due, int token) {
        return switch (due.rule()) {
            case NAME -> token >= 20 && token <= 29;
            case NUMBER -> token >= 100;
            case TOKEN -> token == due.at();
            default -> false;
        };
    }

    private static Set<Due> expanded(List<Due> from) {
        Set<Due> ends = new LinkedHashSet<>();
        List<Due> todo = new ArrayList<>(from);
        while (!todo.isEmpty()) {
            Due due = todo.remove(todo.size() - 1);
            if (terminal(due) || tooDeep(due)) {
                ends.add(due);
            } else {
                ways(due, todo);
            }
        }
        return ends;
    }

    private static Due tok(int token, Due then) {
        return new Due(Rule.TOKEN, token, then);
    }

    private static Due rule(Rule rule, int depth, Due then) {
        return new Due(rule, depth, then);
    }

    private static void ways(Due due, List<Due> out) {
        int d = due.at();
        Due k = due.then();
        switch (due.rule()) {
            case TERM -> {
                out.add(tok(FUN, rule(Rule.NAME, 0, rule(Rule.TERM, d + 1, k))));
                Due rest = rule(Rule.TERM, d + 1, tok(SEMICOLON, rule(Rule.TERM, d + 1, k)));
                out.add(tok(LET, rule(Rule.NAME, 0, rest)));
                out.add(tok(REC, rule(Rule.NAME, 0, rule(Rule.NAME, 0, rest))));
                out.add(tok(IF, rule(Rule.TERM, d + 1, tok(SEMICOLON, rest))));
                Due full = rule(Rule.NAME, 0, rule(Rule.NAME, 0, rule(Rule.TERM, d + 1, k)));
                Due empty = rule(Rule.TERM, d + 1, tok(SEMICOLON, full));
                out.add(tok(MATCH, rule(Rule.TERM, d + 1, tok(SEMICOLON, empty))));
                out.add(rule(Rule.LIST, d, k));
            }
            case LIST -> out.add(rule(Rule.TEST, d, rule(Rule.MORE_LIST, d, k)));
            case MORE_LIST -> {
                out.add(k);
                out.add(tok(CONS, rule(Rule.LIST, d + 1, k)));
            }
            case TEST -> out.add(rule(Rule.SUM, d, rule(Rule.MORE_TEST, d, k)));
            case MORE_TEST -> {
                out.add(k);
                out.add(tok(LESS, rule(Rule.SUM, d, k)));
                out.add(tok(EQUAL, rule(Rule.SUM, d, k)));
            }
            case SUM -> out.add(rule(Rule.PRODUCT, d, rule(Rule.MORE_SUM, d, k)));
            case MORE_SUM -> {
                out.add(k);
                out.add(tok(PLUS, rule(Rule.PRODUCT, d, due)));
                out.add(tok(MINUS, rule(Rule.PRODUCT, d, due)));
            }
            case PRODUCT -> out.add(rule(Rule.CALL, d, rule(Rule.MORE_PRODUCT, d, k)));
            case MORE_PRODUCT -> {
                out.add(k);
                out.add(tok(TIMES, rule(Rule.CALL, d, due)));
            }
            case CALL -> out.add(rule(Rule.ATOM, d, rule(Rule.MORE_CALL, d, k)));
            case MORE_CALL -> {
                out.add(k);
                out.add(rule(Rule.ATOM, d, due));
            }
            case ATOM -> {
                out.add(rule(Rule.NUMBER, 0, k));
                out.add(rule(Rule.NAME, 0, k));
                out.add(tok(TRUE, k));
                out.add(tok(FALSE, k));
                out.add(tok(NIL, k));
                out.add(tok(FST, rule(Rule.ATOM, d + 1, k)));
                out.add(tok(SND, rule(Rule.ATOM, d + 1, k)));
                out.add(tok(OPEN, rule(Rule.TERM, d + 1, tok(CLOSE, k))));
                out.add(tok(OPEN, rule(Rule.TERM, d + 1, tok(COMMA, rule(Rule.TERM, d + 1, tok(CLOSE, k))))));
            }
            default -> throw new IllegalStateException("not reached");
        }
    }

    // ---- terms --------------------------------------------------------------------------------------------

    /** kind: the token, or 20 a name, 100 a number, 30 a call, 31 a pair. */
    record Term(int kind, int x, int y, List<Term> parts) {
        int height() {
            return 1 + parts.stream().mapToInt(Term::height).max().orElse(0);
        }
    }

    /** Builds the term of tokens that place() takes. */
    static Term build(int[] tokens) {
        return new Builder(tokens).term();
    }

    private static final class Builder {
        private final int[] tokens;
        private int i;

        Builder(int[] tokens) {
            this.tokens = tokens;
        }

        private int peek() {
            return i < tokens.length ? tokens[i] : -1;
        }

        Term term() {
            int first = peek();
            if (first < FUN || first > MATCH) {
                return level(0);
            }
            i++;
            int x = -1;
            int y = -1;
            if (first == FUN || first == LET || first == REC) {
                x = tokens[i++] - 20;
            }
            if (first == REC) {
                y = tokens[i++] - 20;
            }
            List<Term> parts = new ArrayList<>(List.of(term()));
            int more = first == FUN ? 0 : first == LET || first == REC ? 1 : 2;
            for (int n = 0; n < more; n++) {
                i++;
                if (first == MATCH && n == 1) {
                    x = tokens[i++] - 20;
                    y = tokens[i++] - 20;
                }
                parts.add(term());
            }
            return new Term(first, x, y, parts);
        }

        /** 0 ::, 1 < =, 2 + -, 3 *, 4 calls. */
        private Term level(int level) {
            if (level == 4) {
                Term left = atom();
                while (i < tokens.length && (peek() == OPEN || peek() >= TRUE && peek() <= SND || peek() >= 20)) {
                    left = new Term(30, -1, -1, List.of(left, atom()));
                }
                return left;
            }
            Term left = level(level + 1);
            while (levelOf(peek()) == level) {
                int sign = tokens[i++];
                left = new Term(sign, -1, -1, List.of(left, level(level == 0 ? 0 : level + 1)));
            }
            return left;
        }

        private static int levelOf(int token) {
            return switch (token) {
                case CONS -> 0;
                case LESS, EQUAL -> 1;
                case PLUS, MINUS -> 2;
                case TIMES -> 3;
                default -> -1;
            };
        }

        private Term atom() {
            int token = tokens[i++];
            if (token >= 100) {
                return new Term(100, token - 100, -1, List.of());
            }
            if (token >= 20) {
                return new Term(20, token - 20, -1, List.of());
            }
            if (token == FST || token == SND) {
                return new Term(token, -1, -1, List.of(atom()));
            }
            if (token != OPEN) {
                return new Term(token, -1, -1, List.of());
            }
            Term first = term();
            if (tokens[i++] == CLOSE) {
                return first;
            }
            Term second = term();
            i++;
            return new Term(31, -1, -1, List.of(first, second));
        }
    }

    // ---- types --------------------------------------------------------------------------------------------

    /** word: 0 INT, 1 BOOL, 2 FUN, 3 PAIR, 4 LIST, 10 a variable with its number. */
    record Type(int word, int variable, List<Type> parts) {
        static final Type INT = new Type(0, -1, List.of());
        static final Type BOOL = new Type(1, -1, List.of());

        static Type of(int word, Type... parts) {
            return new Type(word, -1, List.of(parts));
        }

        int nesting() {
            return 1 + parts.stream().mapToInt(Type::nesting).max().orElse(0);
        }

        int size() {
            return 1 + parts.stream().mapToInt(Type::size).sum();
        }

        void variables(Set<Integer> into) {
            if (word == 10) {
                into.add(variable);
            }
            parts.forEach(part -> part.variables(into));
        }
    }

    /** A fault of typing or of working out, with its answer. */
    static final class Fault extends RuntimeException {
        private static final long serialVersionUID = 1L;
        final int answer;

        Fault(int answer) {
            super(null, null, false, false);
            this.answer = answer;
        }
    }

    /** general null: not bound by LET or REC. */
    private record Bound(int name, Type type, Set<Integer> general) {
    }

    static boolean allBound(Term term, Set<Integer> around) {
        if (term.kind() == 20) {
            return around.contains(term.x());
        }
        for (int n = 0; n < term.parts().size(); n++) {
            Set<Integer> inner = new HashSet<>(around);
            int kind = term.kind();
            if (kind == FUN || kind == REC || kind == LET && n == 1 || kind == MATCH && n == 2) {
                inner.add(term.x());
            }
            if (kind == REC && n == 0 || kind == MATCH && n == 2) {
                inner.add(term.y());
            }
            if (!allBound(term.parts().get(n), inner)) {
                return false;
            }
        }
        return true;
    }

    /** The type of a term, or a Fault. */
    static final class Typing {
        private final Map<Integer, Type> known = new HashMap<>();
        private int variables = 0;

        Type find(Term term) {
            if (!allBound(term, Set.of())) {
                throw new Fault(1);
            }
            return full(of(term, List.of()));
        }

        private Type fresh() {
            return new Type(10, variables++, List.of());
        }

        /** With all that is known put in. */
        private Type full(Type type) {
            if (type.word() == 10) {
                return known.containsKey(type.variable()) ? full(known.get(type.variable())) : type;
            }
            return new Type(type.word(), -1, type.parts().stream().map(this::full).toList());
        }

        private void unify(Type one, Type other) {
            Type s = full(one);
            Type t = full(other);
            if (s.word() == 10 && t.word() == 10 && s.variable() == t.variable()) {
                return;
            }
            if (s.word() == 10) {
                become(s, t);
            } else if (t.word() == 10) {
                become(t, s);
            } else if (s.word() != t.word()) {
                throw new Fault(2);
            } else {
                for (int n = 0; n < s.parts().size(); n++) {
                    unify(s.parts().get(n), t.parts().get(n));
                }
            }
        }

        private void become(Type variable, Type type) {
            Set<Integer> within = new HashSet<>();
            type.variables(within);
            if (within.contains(variable.variable())) {
                throw new Fault(3);
            }
            if (type.size() > 24) {
                throw new Fault(4);
            }
            known.put(variable.variable(), type);
        }

        private static List<Bound> with(List<Bound> around, int name, Type type, Set<Integer> general) {
            List<Bound> inner = new ArrayList<>(around);
            inner.add(0, new Bound(name, type, general));
            return inner;
        }

        private List<Bound> generally(List<Bound> around, int name, Type type) {
            Set<Integer> outside = new HashSet<>();
            for (Bound b : around) {
                Set<Integer> own = new HashSet<>();
                full(b.type()).variables(own);
                if (b.general() != null) {
                    own.removeAll(b.general());
                }
                outside.addAll(own);
            }
            Set<Integer> general = new HashSet<>();
            full(type).variables(general);
            general.removeAll(outside);
            return with(around, name, full(type), general);
        }

        private Type named(int name, List<Bound> around) {
            for (Bound b : around) {
                if (b.name() == name) {
                    if (b.general() == null) {
                        return b.type();
                    }
                    Type type = full(b.type());
                    if (type.nesting() > 20) {
                        throw new Fault(4);
                    }
                    return renewed(type, b.general(), new HashMap<>());
                }
            }
            throw new Fault(1);
        }

        private Type renewed(Type type, Set<Integer> general, Map<Integer, Type> fresh) {
            if (type.word() == 10) {
                return general.contains(type.variable()) ? fresh.computeIfAbsent(type.variable(), v -> fresh()) : type;
            }
            return new Type(type.word(), -1, type.parts().stream().map(p -> renewed(p, general, fresh)).toList());
        }

        private Type of(Term term, List<Bound> around) {
            List<Term> p = term.parts();
            switch (term.kind()) {
                case 100:
                    return Type.INT;
                case TRUE:
                case FALSE:
                    return Type.BOOL;
                case NIL:
                    return Type.of(4, fresh());
                case 20:
                    return named(term.x(), around);
                case FUN: {
                    Type a = fresh();
                    return Type.of(2, a, of(p.get(0), with(around, term.x(), a, null)));
                }
                case 30: {
                    Type f = of(p.get(0), around);
                    Type a = of(p.get(1), around);
                    Type r = fresh();
                    unify(f, Type.of(2, a, r));
                    return r;
                }
                case LET:
                    return of(p.get(1), generally(around, term.x(), of(p.get(0), around)));
                case REC: {
                    Type a = fresh();
                    Type r = fresh();
                    List<Bound> inner = with(with(around, term.x(), Type.of(2, a, r), null), term.y(), a, null);
                    unify(r, of(p.get(0), inner));
                    return of(p.get(1), generally(around, term.x(), Type.of(2, a, r)));
                }
                case IF: {
                    unify(of(p.get(0), around), Type.BOOL);
                    Type t = of(p.get(1), around);
                    unify(t, of(p.get(2), around));
                    return t;
                }
                case PLUS:
                case MINUS:
                case TIMES:
                case LESS:
                case EQUAL:
                    unify(of(p.get(0), around), Type.INT);
                    unify(of(p.get(1), around), Type.INT);
                    return term.kind() == LESS || term.kind() == EQUAL ? Type.BOOL : Type.INT;
                case CONS: {
                    Type a = of(p.get(0), around);
                    Type l = of(p.get(1), around);
                    unify(l, Type.of(4, a));
                    return l;
                }
                case 31: {
                    Type first = of(p.get(0), around);
                    return Type.of(3, first, of(p.get(1), around));
                }
                case FST:
                case SND: {
                    Type t = of(p.get(0), around);
                    Type first = fresh();
                    Type second = fresh();
                    unify(t, Type.of(3, first, second));
                    return term.kind() == FST ? first : second;
                }
                case MATCH: {
                    Type a = fresh();
                    unify(of(p.get(0), around), Type.of(4, a));
                    Type t = of(p.get(1), around);
                    unify(t, of(p.get(2), with(with(around, term.x(), a, null), term.y(), Type.of(4, a), null)));
                    return t;
                }
                default:
                    throw new IllegalStateException("not reached");
            }
        }
    }

    static List<Integer> words(Type type) {
        List<Integer> out = new ArrayList<>();
        words(type, out, new LinkedHashMap<>());
        return out;
    }

    private static void words(Type type, List<Integer> out, Map<Integer, Integer> seen) {
        if (type.word() == 10) {
            seen.putIfAbsent(type.variable(), 10 + seen.size());
            out.add(seen.get(type.variable()));
            return;
        }
        out.add(type.word());
        type.parts().forEach(part -> words(part, out, seen));
    }

    // ---- values -------------------------------------------------------------------------------------------

    private record Scope(int name, Object value, Scope outer) {
    }

    private static final class Function {
        int parameter;
        Term body;
        Scope scope;
    }

    private record Two(int word, Object first, Object second) {
    }

    private static final Object EMPTY = new Object();

    /** One run; answer, words (null when it was not done) and what it used. */
    static final class Running {
        int answer;
        List<Integer> words;
        int spent;
        int cells;
        int nested;
        private final int fuel;

        Running(Term term, int fuel) {
            this.fuel = Math.max(0, Math.min(400, fuel));
            try {
                Object value = work(term, null, 1);
                words = new ArrayList<>();
                tell(value, words);
            } catch (Fault fault) {
                answer = fault.answer;
            }
        }

        private void cell() {
            if (cells == 100) {
                throw new Fault(3);
            }
            cells++;
        }

        private Object work(Term term, Scope scope, int depth) {
            if (depth > 16) {
                throw new Fault(2);
            }
            nested = Math.max(nested, depth);
            if (spent == fuel) {
                throw new Fault(1);
            }
            spent++;
            List<Term> p = term.parts();
            switch (term.kind()) {
                case 100:
                    return term.x();
                case TRUE:
                    return true;
                case FALSE:
                    return false;
                case NIL:
                    return EMPTY;
                case 20: {
                    Scope s = scope;
                    while (s.name() != term.x()) {
                        s = s.outer();
                    }
                    return s.value();
                }
                case FUN: {
                    cell();
                    Function f = new Function();
                    f.parameter = term.x();
                    f.body = p.get(0);
                    f.scope = scope;
                    return f;
                }
                case REC: {
                    cell();
                    Function f = new Function();
                    f.parameter = term.y();
                    f.body = p.get(0);
                    f.scope = new Scope(term.x(), f, scope);
                    return work(p.get(1), f.scope, depth);
                }
                case LET:
                    return work(p.get(1), new Scope(term.x(), work(p.get(0), scope, depth + 1), scope), depth);
                case 30: {
                    Function f = (Function) work(p.get(0), scope, depth + 1);
                    Object a = work(p.get(1), scope, depth + 1);
                    return work(f.body, new Scope(f.parameter, a, f.scope), depth);
                }
                case IF:
                    return work(p.get((Boolean) work(p.get(0), scope, depth + 1) ? 1 : 2), scope, depth);
                case MATCH: {
                    Object l = work(p.get(0), scope, depth + 1);
                    if (l == EMPTY) {
                        return work(p.get(1), scope, depth);
                    }
                    Two two = (Two) l;
                    Scope inner = new Scope(term.y(), two.second(), new Scope(term.x(), two.first(), scope));
                    return work(p.get(2), inner, depth);
                }
                case FST:
                    return ((Two) work(p.get(0), scope, depth + 1)).first();
                case SND:
                    return ((Two) work(p.get(0), scope, depth + 1)).second();
                default: {
                    Object a = work(p.get(0), scope, depth + 1);
                    Object b = work(p.get(1), scope, depth + 1);
                    return join(term.kind(), a, b);
                }
            }
        }

        private Object join(int kind, Object a, Object b) {
            switch (kind) {
                case 31:
                    cell();
                    return new Two(3, a, b);
                case CONS:
                    cell();
                    return new Two(5, a, b);
                case PLUS:
                    return (Integer) a + (Integer) b;
                case MINUS:
                    return (Integer) a - (Integer) b;
                case TIMES:
                    return (Integer) a * (Integer) b;
                case LESS:
                    return (Integer) a < (Integer) b;
                default:
                    return ((Integer) a).intValue() == (Integer) b;
            }
        }

        private static void tell(Object value, List<Integer> out) {
            if (out.size() > 200) {
                return;
            }
            if (value instanceof Integer number) {
                out.add(0);
                out.add(number);
            } else if (value instanceof Boolean truth) {
                out.add(1);
                out.add(truth ? 1 : 0);
            } else if (value instanceof Two two) {
                out.add(two.word());
                tell(two.first(), out);
                tell(two.second(), out);
            } else {
                out.add(value == EMPTY ? 4 : 2);
            }
        }
    }
}
