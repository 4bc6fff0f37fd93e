import java.util.Arrays;
import java.util.NoSuchElementException;

/** A small functional language: terms are read from tokens, typed, and worked out to a value. */
public final class TinyMl {
    private static final int READING = 0;
    private static final int PARSED = 1;
    private static final int TYPED = 2;

    private static final int MOST_TOKENS = 60;
    private static final int MOST_WORDS = 100;
    private static final int HIGHEST_TERM = 16;
    private static final int UNBOUND = 1;
    private static final int NONE = -1;

    private static final int OPEN = 0;
    private static final int CLOSE = 1;
    private static final int COMMA = 2;
    private static final int SEMICOLON = 3;
    private static final int FUN = 4;
    private static final int LET = 5;
    private static final int REC = 6;
    private static final int IF = 7;
    private static final int MATCH = 8;
    private static final int TRUE = 9;
    private static final int FALSE = 10;
    private static final int NIL = 11;
    private static final int FST = 12;
    private static final int SND = 13;
    private static final int PLUS = 14;
    private static final int MINUS = 15;
    private static final int TIMES = 16;
    private static final int LESS = 17;
    private static final int EQUAL = 18;
    private static final int CONS = 19;
    private static final int FIRST_NAME = 20;
    private static final int LAST_NAME = 29;
    private static final int FIRST_NUMBER = 100;

    /** Kinds of terms are the tokens that begin or join them, and these, which no token tells. */
    private static final int NAME = FIRST_NAME;
    private static final int NUMBER = FIRST_NUMBER;
    private static final int CALL = 30;
    private static final int PAIR = 31;

    private final int[] tokens = new int[MOST_TOKENS];
    private final Terms terms = new Terms();
    private final Reader reader = new Reader(tokens, terms);
    private final Typer typer = new Typer(terms);
    private final Machine machine = new Machine(terms);
    private final Words typeWords = new Words(MOST_WORDS);
    private final Words outWords = new Words(MOST_WORDS);
    private int tokenCount;
    private int phaseNow = READING;
    private boolean done;

    public TinyMl() {
    }

    public boolean token(int t) throws IllegalStateException {
        if (phaseNow != READING) {
            throw new IllegalStateException("tokens are put while it is reading");
        }
        if (!isToken(t) || tokenCount >= MOST_TOKENS) {
            return false;
        }
        put(tokens, tokenCount, t);
        tokenCount++;
        return true;
    }

    public int parse() throws IllegalStateException {
        if (phaseNow != READING) {
            throw new IllegalStateException("a term is parsed while it is reading");
        }
        int answer = reader.readAll(tokenCount);
        if (answer == 0) {
            phaseNow = PARSED;
        }
        return answer;
    }

    public int infer() throws IllegalStateException {
        if (phaseNow != PARSED) {
            throw new IllegalStateException("a type is found for a parsed term");
        }
        int whole = reader.whole();
        if (!typer.allBound(whole, 0, 1)) {
            return UNBOUND;
        }
        typer.clear();
        int type = typer.typeOf(whole, 1);
        if (typer.fault() == 0) {
            typer.tell(type, typeWords);
            phaseNow = TYPED;
        }
        return typer.fault();
    }

    public int run(int fuel) throws IllegalStateException {
        if (phaseNow != TYPED) {
            throw new IllegalStateException("a typed term is run");
        }
        int answer = machine.workOut(reader.whole(), fuel, outWords);
        done = answer == 0;
        return answer;
    }

    public void reset() {
        tokenCount = 0;
        machine.clear();
        done = false;
        phaseNow = READING;
    }

    public int phase() {
        return phaseNow;
    }

    public int typeSize() {
        return phaseNow == TYPED ? typeWords.size() : NONE;
    }

    public int typeAt(int i) throws NoSuchElementException {
        if (phaseNow != TYPED || !typeWords.has(i)) {
            throw new NoSuchElementException("the type has no such word");
        }
        return typeWords.word(i);
    }

    public int outSize() {
        return done ? outWords.size() : NONE;
    }

    public int outAt(int i) throws NoSuchElementException {
        if (!done || !outWords.has(i)) {
            throw new NoSuchElementException("the value has no such word");
        }
        return outWords.word(i);
    }

    public int used(int what) {
        switch (what) {
            case 0:
                return machine.fuelUsed();
            case 1:
                return machine.cellsUsed();
            case 2:
                return machine.mostNested();
            default:
                return NONE;
        }
    }

    private static boolean isToken(int t) {
        return t >= OPEN && t <= LAST_NAME || t >= FIRST_NUMBER;
    }

    private static boolean isName(int t) {
        return t >= FIRST_NAME && t <= LAST_NAME;
    }

    /** All rows are read and written by these two, so that no index goes untested. */
    private static int at(int[] row, int i) {
        return i >= 0 && i < row.length ? row[i] : 0;
    }

    private static void put(int[] row, int i, int value) {
        if (i >= 0 && i < row.length) {
            row[i] = value;
        }
    }

    /** The words of a type or a value, as long as there are not too many. */
    static final class Words {
        private static final int TOO_MANY = -2;

        private final int[] row;
        private int count;

        Words(int most) {
            row = new int[most > 0 ? most : 0];
        }

        void clear() {
            count = 0;
        }

        void add(int word) {
            put(row, count, word);
            if (!tooMany()) {
                count++;
            }
        }

        boolean tooMany() {
            return count > row.length;
        }

        int size() {
            return tooMany() ? TOO_MANY : count;
        }

        boolean has(int i) {
            return i >= 0 && i < size();
        }

        int word(int i) {
            return at(row, i);
        }
    }

    /** The nodes of the term that was read. */
    static final class Terms {
        /** A token makes at most a node of its own and a call that joins it. */
        private static final int MOST = 2 * MOST_TOKENS;
        private static final int PARTS = 3;

        private final int[] kinds = new int[MOST];
        private final int[] firsts = new int[MOST];
        private final int[] seconds = new int[MOST];
        private final int[] heights = new int[MOST];
        private final int[] parts = new int[PARTS * MOST];
        private int count;

        void clear() {
            count = 0;
        }

        int leaf(int kind, int value) {
            return binder(kind, value, NONE, NONE, NONE, NONE);
        }

        int node(int kind, int a, int b, int c) {
            return binder(kind, NONE, NONE, a, b, c);
        }

        /** A term with up to two names (or a number in place of the first) and up to three parts. */
        int binder(int kind, int first, int second, int a, int b, int c) {
            if (count >= MOST) {
                return NONE;
            }
            int term = count;
            count++;
            put(kinds, term, kind);
            put(firsts, term, first);
            put(seconds, term, second);
            put(parts, PARTS * term, a);
            put(parts, PARTS * term + 1, b);
            put(parts, PARTS * term + 2, c);
            put(heights, term, 1 + Math.max(height(a), Math.max(height(b), height(c))));
            return term;
        }

        int kind(int term) {
            return has(term) ? at(kinds, term) : NONE;
        }

        /** The name that a LET, a REC, a MATCH or a name itself tells first, or the number. */
        int first(int term) {
            return has(term) ? at(firsts, term) : NONE;
        }

        /** The second name of a MATCH, and the parameter of FUN and REC alike. */
        int second(int term) {
            return has(term) ? at(seconds, term) : NONE;
        }

        int part(int term, int which) {
            return has(term) && which >= 0 && which < PARTS ? at(parts, PARTS * term + which) : NONE;
        }

        int height(int term) {
            return has(term) ? at(heights, term) : 0;
        }

        private boolean has(int term) {
            return term >= 0 && term < count;
        }
    }

    /** Reads tokens by the rules of terms; the first fault stands, and nothing is read behind it. */
    static final class Reader {
        private static final int END = -1;
        private static final int TOO_DEEP = -1;
        private static final int DEEPEST = 7;

        private final int[] tokens;
        private final Terms terms;
        private int count;
        private int place;
        private int fault;
        private int root = NONE;

        Reader(int[] tokens, Terms terms) {
            this.tokens = tokens;
            this.terms = terms;
        }

        int readAll(int tokenCount) {
            terms.clear();
            count = tokenCount;
            place = 0;
            fault = 0;
            root = term(0);
            if (place < count) {
                refuse();
            }
            if (terms.height(root) > HIGHEST_TERM) {
                fail(TOO_DEEP);
            }
            return fault;
        }

        int whole() {
            return root;
        }

        private int term(int depth) {
            if (stopped(depth)) {
                return NONE;
            }
            switch (look()) {
                case FUN:
                    return function(depth);
                case LET:
                    return let(depth);
                case REC:
                    return recursive(depth);
                case IF:
                    return choice(depth);
                case MATCH:
                    return match(depth);
                default:
                    return list(depth);
            }
        }

        private int function(int depth) {
            place++;
            int parameter = name();
            int body = term(depth + 1);
            return terms.binder(FUN, NONE, parameter, body, NONE, NONE);
        }

        private int let(int depth) {
            place++;
            int name = name();
            int bound = term(depth + 1);
            want(SEMICOLON);
            int rest = term(depth + 1);
            return terms.binder(LET, name, NONE, bound, rest, NONE);
        }

        private int recursive(int depth) {
            place++;
            int name = name();
            int parameter = name();
            int body = term(depth + 1);
            want(SEMICOLON);
            int rest = term(depth + 1);
            return terms.binder(REC, name, parameter, body, rest, NONE);
        }

        private int choice(int depth) {
            place++;
            int condition = term(depth + 1);
            want(SEMICOLON);
            int yes = term(depth + 1);
            want(SEMICOLON);
            int no = term(depth + 1);
            return terms.node(IF, condition, yes, no);
        }

        private int match(int depth) {
            place++;
            int matched = term(depth + 1);
            want(SEMICOLON);
            int empty = term(depth + 1);
            want(SEMICOLON);
            int head = name();
            int tail = name();
            int full = term(depth + 1);
            return terms.binder(MATCH, head, tail, matched, empty, full);
        }

        private int list(int depth) {
            if (stopped(depth)) {
                return NONE;
            }
            int head = test(depth);
            if (look() != CONS) {
                return head;
            }
            place++;
            int tail = list(depth + 1);
            return terms.node(CONS, head, tail, NONE);
        }

        private int test(int depth) {
            int left = sum(depth);
            int sign = look();
            if (sign != LESS && sign != EQUAL) {
                return left;
            }
            place++;
            int right = sum(depth);
            return terms.node(sign, left, right, NONE);
        }

        private int sum(int depth) {
            int left = product(depth);
            int sign = look();
            for (int turn = 0; turn < count && (sign == PLUS || sign == MINUS); turn++) {
                place++;
                int right = product(depth);
                left = terms.node(sign, left, right, NONE);
                sign = look();
            }
            return left;
        }

        private int product(int depth) {
            int left = call(depth);
            for (int turn = 0; turn < count && look() == TIMES; turn++) {
                place++;
                int right = call(depth);
                left = terms.node(TIMES, left, right, NONE);
            }
            return left;
        }

        private int call(int depth) {
            int called = atom(depth);
            for (int turn = 0; turn < count && beginsAtom(look()); turn++) {
                int argument = atom(depth);
                called = terms.node(CALL, called, argument, NONE);
            }
            return called;
        }

        private static boolean beginsAtom(int token) {
            return token == OPEN || token >= TRUE && token <= SND || isName(token) || token >= FIRST_NUMBER;
        }

        private int atom(int depth) {
            if (stopped(depth)) {
                return NONE;
            }
            int token = look();
            if (!beginsAtom(token)) {
                refuse();
                return NONE;
            }
            place++;
            if (token >= FIRST_NUMBER) {
                return terms.leaf(NUMBER, token - FIRST_NUMBER);
            }
            if (isName(token)) {
                return terms.leaf(NAME, token - FIRST_NAME);
            }
            if (token == OPEN) {
                return inside(depth + 1);
            }
            if (token == FST || token == SND) {
                int pair = atom(depth + 1);
                return terms.node(token, pair, NONE, NONE);
            }
            return terms.leaf(token, NONE);
        }

        private int inside(int depth) {
            int first = term(depth);
            if (look() != COMMA) {
                want(CLOSE);
                return first;
            }
            place++;
            int second = term(depth);
            want(CLOSE);
            return terms.node(PAIR, first, second, NONE);
        }

        private int name() {
            int token = look();
            if (!isName(token)) {
                refuse();
                return NONE;
            }
            place++;
            return token - FIRST_NAME;
        }

        private void want(int token) {
            if (look() == token) {
                place++;
            } else {
                refuse();
            }
        }

        private int look() {
            return fault == 0 && place < count ? at(tokens, place) : END;
        }

        private boolean stopped(int depth) {
            if (depth > DEEPEST) {
                fail(TOO_DEEP);
            }
            return fault != 0;
        }

        private void refuse() {
            fail(1 + place);
        }

        private void fail(int answer) {
            if (fault == 0) {
                fault = answer;
            }
        }
    }

    /** Types as nodes; a variable that has become another type is a link to it. */
    static final class Types {
        static final int INT = 0;
        static final int BOOL = 1;
        static final int FUNCTION = 2;
        static final int PAIRED = 3;
        static final int LIST = 4;
        static final int MISMATCH = 2;
        static final int OCCURS = 3;
        static final int ROOM = 4;

        private static final int VARIABLE = 5;
        private static final int GENERAL = 6;
        private static final int LINK = 7;
        private static final int FIRST_VARIABLE_WORD = 10;
        private static final int MOST_BOUND_WORDS = 24;
        private static final int MOST_NESTED = 20;
        private static final int FIRST_ROOM = 256;
        /** Far above what the types of a term of 60 tokens take: some 11000 are the most that were seen. */
        private static final int MOST_ROOM = 65536;
        /** What waits is at most about twice as long as types lie in one another: 64 are the most that were seen. */
        private static final int MOST_WAITING = 1024;
        private static final int MOST_TURNS = 1000000;

        private int[] kinds = new int[FIRST_ROOM];
        private int[] lefts = new int[FIRST_ROOM];
        private int[] rights = new int[FIRST_ROOM];
        private int[] marks = new int[FIRST_ROOM];
        private int[] notes = new int[FIRST_ROOM];
        /** Pairs wait while unifying, and the parts that are marked above them. */
        private final int[] waiting = new int[MOST_WAITING];
        private final int[] partners = new int[MOST_WAITING];
        private final Words scratch = new Words(MOST_BOUND_WORDS);
        private int count;
        private int open;
        private int stamp;
        private int fault;

        void clear() {
            count = 0;
            open = 0;
            fault = 0;
            make(INT, NONE, NONE);
            make(BOOL, NONE, NONE);
        }

        int fault() {
            return fault;
        }

        void fail(int answer) {
            if (fault == 0) {
                fault = answer;
            }
        }

        int variable() {
            return make(VARIABLE, NONE, NONE);
        }

        int function(int from, int to) {
            return make(FUNCTION, from, to);
        }

        int pair(int first, int second) {
            return make(PAIRED, first, second);
        }

        int list(int of) {
            return make(LIST, of, NONE);
        }

        private int make(int kind, int left, int right) {
            if (count >= kinds.length && !grown()) {
                fail(ROOM);
                return INT;
            }
            int type = count;
            count++;
            put(kinds, type, kind);
            put(lefts, type, left);
            put(rights, type, right);
            put(marks, type, 0);
            return type;
        }

        private boolean grown() {
            int room = 2 * kinds.length;
            if (room > MOST_ROOM) {
                return false;
            }
            kinds = Arrays.copyOf(kinds, room);
            lefts = Arrays.copyOf(lefts, room);
            rights = Arrays.copyOf(rights, room);
            marks = Arrays.copyOf(marks, room);
            notes = Arrays.copyOf(notes, room);
            return true;
        }

        /** The type with what is known of it put in, at its top. */
        private int known(int type) {
            int end = type;
            for (int turn = 0; turn < count && at(kinds, end) == LINK; turn++) {
                end = at(lefts, end);
            }
            return end;
        }

        void unify(int s, int t) {
            open = 0;
            await(s, t);
            for (int turn = 0; turn < MOST_TURNS && open > 0 && fault == 0; turn++) {
                open--;
                int one = known(at(waiting, open));
                int other = known(at(partners, open));
                if (at(kinds, one) == VARIABLE) {
                    become(one, other);
                } else if (at(kinds, other) == VARIABLE) {
                    become(other, one);
                } else if (at(kinds, one) != at(kinds, other)) {
                    fail(MISMATCH);
                } else if (one != other) {
                    awaitParts(one, other);
                }
            }
            if (open > 0) {
                fail(ROOM);
            }
        }

        private void await(int type, int partner) {
            if (open >= 0 && open < waiting.length && open < partners.length) {
                waiting[open] = type;
                partners[open] = partner;
                open++;
            } else if (fault == 0) {
                fault = ROOM;
            }
        }

        /** What waits last is taken first, so the second parts go in before the first ones. */
        private void awaitParts(int type, int partner) {
            int kind = at(kinds, type);
            if (kind == FUNCTION || kind == PAIRED) {
                await(at(rights, type), at(rights, partner));
            }
            if (kind == FUNCTION || kind == PAIRED || kind == LIST) {
                await(at(lefts, type), at(lefts, partner));
            }
        }

        private boolean hasFirst(int type) {
            int kind = at(kinds, type);
            return kind == FUNCTION || kind == PAIRED || kind == LIST;
        }

        private boolean hasSecond(int type) {
            int kind = at(kinds, type);
            return kind == FUNCTION || kind == PAIRED;
        }

        private void become(int variable, int type) {
            if (variable == type) {
                return;
            }
            beginMarks();
            markAll(type, false);
            if (marked(variable)) {
                fail(OCCURS);
                return;
            }
            tell(type, scratch);
            if (scratch.tooMany()) {
                fail(ROOM);
                return;
            }
            put(kinds, variable, LINK);
            put(lefts, variable, type);
        }

        void beginMarks() {
            stamp++;
        }

        private boolean marked(int type) {
            return at(marks, type) == stamp;
        }

        /** Marks all parts of a type; if general, the variables that had no mark yet become general. */
        void markAll(int type, boolean general) {
            int base = open;
            await(type, NONE);
            for (int turn = 0; turn < MOST_TURNS && open > base; turn++) {
                open--;
                int part = known(at(waiting, open));
                if (!marked(part)) {
                    put(marks, part, stamp);
                    if (general && at(kinds, part) == VARIABLE) {
                        put(kinds, part, GENERAL);
                    }
                    awaitParts(part, NONE);
                }
            }
            open = base;
        }

        /** Writes the words of a type, as far as the row takes them. */
        void tell(int type, Words words) {
            int base = open;
            int variables = 0;
            words.clear();
            beginMarks();
            await(type, NONE);
            for (int turn = 0; turn < MOST_TURNS && open > base && !words.tooMany(); turn++) {
                open--;
                int part = known(at(waiting, open));
                if (hasFirst(part) || at(kinds, part) <= BOOL) {
                    words.add(at(kinds, part));
                    awaitParts(part, NONE);
                } else {
                    if (!marked(part)) {
                        note(part, FIRST_VARIABLE_WORD + variables);
                        variables++;
                    }
                    words.add(at(notes, part));
                }
            }
            open = base;
        }

        private void note(int type, int what) {
            put(marks, type, stamp);
            put(notes, type, what);
        }

        /** The type of a name that LET or REC bound, with new variables for the general ones. */
        int instance(int type) {
            beginMarks();
            if (nesting(type, 1) > MOST_NESTED) {
                fail(ROOM);
                return INT;
            }
            beginMarks();
            return copy(type, 1);
        }

        /** How many parts lie in one another; what lies beyond the most is not looked at. */
        private int nesting(int type, int level) {
            int part = known(type);
            if (level > MOST_NESTED || !hasFirst(part)) {
                return 1;
            }
            if (!marked(part)) {
                int deepest = nesting(at(lefts, part), level + 1);
                if (hasSecond(part)) {
                    deepest = Math.max(deepest, nesting(at(rights, part), level + 1));
                }
                note(part, 1 + deepest);
            }
            return at(notes, part);
        }

        private int copy(int type, int level) {
            int part = known(type);
            if (level > MOST_NESTED || at(kinds, part) != GENERAL && !hasFirst(part)) {
                return part;
            }
            if (!marked(part)) {
                note(part, copyNew(part, level));
            }
            return at(notes, part);
        }

        /** Parts without general variables are not made anew. */
        private int copyNew(int part, int level) {
            if (at(kinds, part) == GENERAL) {
                return make(VARIABLE, NONE, NONE);
            }
            int oldLeft = at(lefts, part);
            int oldRight = at(rights, part);
            int left = copy(oldLeft, level + 1);
            int right = hasSecond(part) ? copy(oldRight, level + 1) : NONE;
            boolean same = left == known(oldLeft) && (!hasSecond(part) || right == known(oldRight));
            return same ? part : make(at(kinds, part), left, right);
        }
    }

    /** Finds the type of a term, from left to right. */
    static final class Typer {
        /** Each term around another binds at most two names. */
        private static final int MOST_BOUND = 2 * HIGHEST_TERM + 2;

        private final Terms terms;
        private final Types types = new Types();
        private final int[] names = new int[MOST_BOUND];
        private final int[] bound = new int[MOST_BOUND];
        private final boolean[] general = new boolean[MOST_BOUND];
        private int count;

        Typer(Terms terms) {
            this.terms = terms;
        }

        void clear() {
            types.clear();
            count = 0;
        }

        int fault() {
            return types.fault();
        }

        void tell(int type, Words words) {
            types.tell(type, words);
        }

        /** Bit n of around tells that name n is bound. */
        boolean allBound(int term, int around, int level) {
            if (level > HIGHEST_TERM) {
                return false;
            }
            int kind = terms.kind(term);
            if (kind == NAME) {
                return (around & bit(terms.first(term))) != 0;
            }
            boolean all = true;
            for (int which = 0; which < Terms.PARTS && all; which++) {
                int part = terms.part(term, which);
                all = part == NONE || allBound(part, around | boundIn(term, which), level + 1);
            }
            return all;
        }

        private int boundIn(int term, int which) {
            int first = bit(terms.first(term));
            int second = bit(terms.second(term));
            switch (terms.kind(term)) {
                case FUN:
                    return second;
                case LET:
                    return which == 1 ? first : 0;
                case REC:
                    return which == 0 ? first | second : first;
                case MATCH:
                    return which == 2 ? first | second : 0;
                default:
                    return 0;
            }
        }

        private static int bit(int name) {
            return name >= 0 ? 1 << name : 0;
        }

        int typeOf(int term, int level) {
            if (types.fault() != 0) {
                return Types.INT;
            }
            if (level > HIGHEST_TERM) {
                types.fail(Types.ROOM);
                return Types.INT;
            }
            switch (terms.kind(term)) {
                case TRUE:
                case FALSE:
                    return Types.BOOL;
                case NIL:
                    return types.list(types.variable());
                case NAME:
                    return typeOfName(terms.first(term));
                case FUN:
                    return typeOfFunction(term, level);
                case CALL:
                    return typeOfCall(term, level);
                case LET:
                    return typeOfLet(term, level);
                case REC:
                    return typeOfRecursion(term, level);
                case IF:
                    return typeOfChoice(term, level);
                case MATCH:
                    return typeOfMatch(term, level);
                case CONS:
                    return typeOfCons(term, level);
                case PAIR:
                    return typeOfPair(term, level);
                case FST:
                case SND:
                    return typeOfHalf(term, level);
                case PLUS:
                case MINUS:
                case TIMES:
                    return typeOfNumbers(term, level, Types.INT);
                case LESS:
                case EQUAL:
                    return typeOfNumbers(term, level, Types.BOOL);
                default:
                    return Types.INT;
            }
        }

        private int typeOfPart(int term, int which, int level) {
            return typeOf(terms.part(term, which), level + 1);
        }

        private int typeOfName(int name) {
            for (int i = count - 1; i >= 0; i--) {
                if (at(names, i) == name) {
                    int type = at(bound, i);
                    return isGeneral(i) ? types.instance(type) : type;
                }
            }
            return Types.INT;
        }

        private int typeOfFunction(int term, int level) {
            int from = types.variable();
            bind(terms.second(term), from, false);
            int to = typeOfPart(term, 0, level);
            unbind(1);
            return types.function(from, to);
        }

        private int typeOfCall(int term, int level) {
            int called = typeOfPart(term, 0, level);
            int argument = typeOfPart(term, 1, level);
            int result = types.variable();
            types.unify(called, types.function(argument, result));
            return result;
        }

        private int typeOfLet(int term, int level) {
            int type = typeOfPart(term, 0, level);
            return typeOfRest(term, type, level);
        }

        private int typeOfRecursion(int term, int level) {
            int from = types.variable();
            int to = types.variable();
            int function = types.function(from, to);
            bind(terms.first(term), function, false);
            bind(terms.second(term), from, false);
            int body = typeOfPart(term, 0, level);
            unbind(2);
            types.unify(to, body);
            return typeOfRest(term, function, level);
        }

        /** What comes behind the ; of LET and REC, where the name has a general type. */
        private int typeOfRest(int term, int type, int level) {
            types.beginMarks();
            for (int i = 0; i < count; i++) {
                types.markAll(at(bound, i), false);
            }
            types.markAll(type, true);
            bind(terms.first(term), type, true);
            int rest = typeOfPart(term, 1, level);
            unbind(1);
            return rest;
        }

        private int typeOfChoice(int term, int level) {
            types.unify(typeOfPart(term, 0, level), Types.BOOL);
            int yes = typeOfPart(term, 1, level);
            int no = typeOfPart(term, 2, level);
            types.unify(yes, no);
            return yes;
        }

        private int typeOfMatch(int term, int level) {
            int matched = typeOfPart(term, 0, level);
            int element = types.variable();
            types.unify(matched, types.list(element));
            int empty = typeOfPart(term, 1, level);
            bind(terms.first(term), element, false);
            bind(terms.second(term), types.list(element), false);
            int full = typeOfPart(term, 2, level);
            unbind(2);
            types.unify(empty, full);
            return empty;
        }

        private int typeOfCons(int term, int level) {
            int head = typeOfPart(term, 0, level);
            int tail = typeOfPart(term, 1, level);
            types.unify(tail, types.list(head));
            return tail;
        }

        private int typeOfPair(int term, int level) {
            int first = typeOfPart(term, 0, level);
            int second = typeOfPart(term, 1, level);
            return types.pair(first, second);
        }

        private int typeOfHalf(int term, int level) {
            int whole = typeOfPart(term, 0, level);
            int first = types.variable();
            int second = types.variable();
            types.unify(whole, types.pair(first, second));
            return terms.kind(term) == FST ? first : second;
        }

        private int typeOfNumbers(int term, int level, int result) {
            types.unify(typeOfPart(term, 0, level), Types.INT);
            types.unify(typeOfPart(term, 1, level), Types.INT);
            return result;
        }

        private void bind(int name, int type, boolean isGeneral) {
            put(names, count, name);
            put(bound, count, type);
            if (count >= 0 && count < general.length) {
                general[count] = isGeneral;
            }
            count++;
        }

        private void unbind(int many) {
            count -= many;
        }

        private boolean isGeneral(int i) {
            return i >= 0 && i < general.length && general[i];
        }
    }

    /** Works a term out; values and bindings lie in rows that each run uses anew. */
    static final class Machine {
        private static final int OUT_OF_FUEL = 1;
        private static final int DEEP = 2;
        private static final int OUT_OF_CELLS = 3;
        private static final int MOST_FUEL = 400;
        private static final int MOST_CELLS = 100;
        private static final int MOST_NESTED = 16;

        private static final int NUMBER_WORD = 0;
        private static final int TRUTH_WORD = 1;
        private static final int FUNCTION_WORD = 2;
        private static final int PAIR_WORD = 3;
        private static final int NIL_WORD = 4;
        private static final int CONS_WORD = 5;

        /** The values that are there before a run. */
        private static final int NO = 0;
        private static final int YES = 1;
        private static final int EMPTY = 2;
        private static final int NOWHERE = 0;
        /** For each 1 of fuel at most one value and one binding; the few that stand before come on top. */
        private static final int ROWS = MOST_FUEL + 16;

        private final Terms terms;
        private final int[] kinds = new int[ROWS];
        private final int[] lefts = new int[ROWS];
        private final int[] rights = new int[ROWS];
        private final int[] names = new int[ROWS];
        private final int[] bound = new int[ROWS];
        private final int[] outers = new int[ROWS];
        private final int[] waiting = new int[2 * MOST_WORDS];
        private int values;
        private int scopes;
        private int fuel;
        private int spent;
        private int cells;
        private int nested;
        private int stop;
        private int nextScope;

        Machine(Terms terms) {
            this.terms = terms;
        }

        void clear() {
            spent = 0;
            cells = 0;
            nested = 0;
        }

        int fuelUsed() {
            return spent;
        }

        int cellsUsed() {
            return cells;
        }

        int mostNested() {
            return nested;
        }

        int workOut(int term, int fuelGiven, Words words) {
            clear();
            fuel = Math.max(0, Math.min(MOST_FUEL, fuelGiven));
            stop = 0;
            values = 0;
            make(TRUTH_WORD, 0, 0);
            make(TRUTH_WORD, 1, 0);
            make(NIL_WORD, 0, 0);
            scopes = NOWHERE + 1;
            int value = work(term, NOWHERE, 1);
            if (stop == 0) {
                tell(value, words);
            }
            return stop;
        }

        /** A term that is worked out in place of another lies as deep as that one: hence a loop, no recursion. */
        private int work(int term, int scope, int depth) {
            int now = term;
            int where = scope;
            for (int turn = 0; turn <= MOST_FUEL && begins(depth); turn++) {
                if (!hasFollower(terms.kind(now))) {
                    return valueOf(now, where, depth);
                }
                now = follower(now, where, depth);
                where = nextScope;
            }
            return EMPTY;
        }

        private boolean begins(int depth) {
            if (stop != 0) {
                return false;
            }
            if (depth > MOST_NESTED) {
                stop = DEEP;
                return false;
            }
            nested = Math.max(nested, depth);
            if (spent >= fuel) {
                stop = OUT_OF_FUEL;
                return false;
            }
            spent++;
            return true;
        }

        private static boolean hasFollower(int kind) {
            return kind == CALL || kind == LET || kind == REC || kind == IF || kind == MATCH;
        }

        /** The term that is worked out in place of this one; its scope is left in nextScope. */
        private int follower(int term, int scope, int depth) {
            switch (terms.kind(term)) {
                case CALL:
                    return enter(term, scope, depth);
                case LET:
                    int value = workPart(term, 0, scope, depth);
                    nextScope = bind(terms.first(term), value, scope);
                    return terms.part(term, 1);
                case REC:
                    nextScope = bindRecursive(term, scope);
                    return terms.part(term, 1);
                case IF:
                    int condition = workPart(term, 0, scope, depth);
                    nextScope = scope;
                    return terms.part(term, condition == YES ? 1 : 2);
                default:
                    return branch(term, scope, depth);
            }
        }

        private int enter(int term, int scope, int depth) {
            int called = workPart(term, 0, scope, depth);
            int argument = workPart(term, 1, scope, depth);
            int function = at(lefts, called);
            nextScope = bind(terms.second(function), argument, at(rights, called));
            return terms.part(function, 0);
        }

        private int bindRecursive(int term, int scope) {
            int function = makeCell(FUNCTION_WORD, term, scope);
            if (stop != 0) {
                return scope;
            }
            int inner = bind(terms.first(term), function, scope);
            put(rights, function, inner);
            return inner;
        }

        private int branch(int term, int scope, int depth) {
            int list = workPart(term, 0, scope, depth);
            if (at(kinds, list) != CONS_WORD) {
                nextScope = scope;
                return terms.part(term, 1);
            }
            int withHead = bind(terms.first(term), at(lefts, list), scope);
            nextScope = bind(terms.second(term), at(rights, list), withHead);
            return terms.part(term, 2);
        }

        private int workPart(int term, int which, int scope, int depth) {
            return work(terms.part(term, which), scope, depth + 1);
        }

        private int valueOf(int term, int scope, int depth) {
            int kind = terms.kind(term);
            switch (kind) {
                case NUMBER:
                    return make(NUMBER_WORD, terms.first(term), 0);
                case TRUE:
                    return YES;
                case FALSE:
                    return NO;
                case NIL:
                    return EMPTY;
                case NAME:
                    return boundTo(terms.first(term), scope);
                case FUN:
                    return makeCell(FUNCTION_WORD, term, scope);
                case FST:
                    return at(lefts, workPart(term, 0, scope, depth));
                case SND:
                    return at(rights, workPart(term, 0, scope, depth));
                default:
                    return joined(term, scope, depth);
            }
        }

        private int joined(int term, int scope, int depth) {
            int left = workPart(term, 0, scope, depth);
            int right = workPart(term, 1, scope, depth);
            if (stop != 0) {
                return EMPTY;
            }
            switch (terms.kind(term)) {
                case PAIR:
                    return makeCell(PAIR_WORD, left, right);
                case CONS:
                    return makeCell(CONS_WORD, left, right);
                default:
                    return reckoned(terms.kind(term), at(lefts, left), at(lefts, right));
            }
        }

        private int reckoned(int sign, int a, int b) {
            switch (sign) {
                case PLUS:
                    return make(NUMBER_WORD, a + b, 0);
                case MINUS:
                    return make(NUMBER_WORD, a - b, 0);
                case TIMES:
                    return make(NUMBER_WORD, a * b, 0);
                case LESS:
                    return a < b ? YES : NO;
                default:
                    return a == b ? YES : NO;
            }
        }

        private int makeCell(int kind, int left, int right) {
            if (cells >= MOST_CELLS) {
                stop = OUT_OF_CELLS;
                return EMPTY;
            }
            cells++;
            return make(kind, left, right);
        }

        private int make(int kind, int left, int right) {
            if (values >= ROWS) {
                return EMPTY;
            }
            int value = values;
            values++;
            put(kinds, value, kind);
            put(lefts, value, left);
            put(rights, value, right);
            return value;
        }

        private int bind(int name, int value, int outer) {
            if (scopes >= ROWS) {
                return outer;
            }
            int scope = scopes;
            scopes++;
            put(names, scope, name);
            put(bound, scope, value);
            put(outers, scope, outer);
            return scope;
        }

        private int boundTo(int name, int scope) {
            int where = scope;
            for (int turn = 0; turn < ROWS && where != NOWHERE; turn++) {
                if (at(names, where) == name) {
                    return at(bound, where);
                }
                where = at(outers, where);
            }
            return EMPTY;
        }

        private void tell(int value, Words words) {
            int open = 0;
            words.clear();
            put(waiting, open, value);
            open++;
            for (int turn = 0; turn <= MOST_WORDS && open > 0 && !words.tooMany(); turn++) {
                open--;
                int part = at(waiting, open);
                int kind = at(kinds, part);
                words.add(kind);
                if (kind == NUMBER_WORD || kind == TRUTH_WORD) {
                    words.add(at(lefts, part));
                } else if (kind == PAIR_WORD || kind == CONS_WORD) {
                    put(waiting, open, at(rights, part));
                    put(waiting, open + 1, at(lefts, part));
                    open += 2;
                }
            }
        }
    }
}
