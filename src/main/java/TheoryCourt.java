import java.util.Arrays;

/**
 * Formulas over whole numbers, functions and rows without end: commands are read to shared terms,
 * assertions are judged together, and clauses are proved by ten rules.
 */
public final class TheoryCourt {
    public static final int NONE = -1;
    public static final int UNSAT = -2000000000;
    public static final long FAR = 1000000000000000L;

    private static final int FEED = 20;
    private static final int MAX_TAPE = 2000;
    private static final int MAX_TOKENS = 400;
    private static final int MAX_OPEN = 20;
    private static final int MAX_PARTS = 8;
    private static final int MAX_NAME = 16;
    private static final int MAX_DIGITS = 6;
    private static final int MAX_SYMBOLS = 24;
    private static final int MAX_TAKES = 3;
    private static final int MAX_TERMS = 64;
    private static final int MAX_ASSERTIONS = 14;
    private static final int MAX_LEVELS = 8;
    private static final int MAX_READ = 4000;
    private static final int MAX_NUMBER = 999999;
    private static final int MAX_CLAUSE = 8;
    private static final int MAX_STEPS = 60;

    private static final int INT = 0;
    private static final int BOOL = 1;
    private static final int ARRAY = 2;

    private static final int CONSTANT = 0;
    private static final int NAME = 1;
    private static final int APPLICATION = 2;
    private static final int SELECT = 3;
    private static final int ITE = 4;
    private static final int PLUS = 5;
    private static final int STORE = 6;
    private static final int TRUE = 7;
    private static final int FALSE = 8;
    private static final int NOT = 9;
    private static final int AND = 10;
    private static final int OR = 11;
    private static final int XOR = 12;
    private static final int IMPLIES = 13;
    private static final int EQUAL = 14;
    private static final int DISTINCT = 15;
    private static final int LESS = 16;
    private static final int MORE = 18;

    private static final int SYNTAX = -3;
    private static final int FAULT_UNKNOWN = 1;
    private static final int FAULT_TWICE = 2;
    private static final int FAULT_SORT = 3;
    private static final int FAULT_PARTS = 4;
    private static final int FAULT_SUM = 5;
    private static final int FAULT_NUMBER = 6;
    private static final int FAULT_ROOM = 7;
    private static final int FAULT_POP = 8;

    private static final String MARKS = "_.!-+<>=";
    private static final String WORDS = "declare-const declare-fun define-fun assert term push pop let ite select store and or not xor true false distinct Int Bool Array = => < <= > >= + -";
    private static final int[] WORD_AT = {0, 14, 26, 37, 44, 49, 54, 58, 62, 66, 73, 79, 83, 86, 90, 94,
        99, 105, 114, 118, 123, 129, 131, 134, 136, 139, 141, 144, 146};
    private static final int[] WORD_LENGTH = {13, 11, 10, 6, 4, 4, 3, 3, 3, 6, 5, 3, 2, 3, 3, 4, 5, 8, 3,
        4, 5, 1, 2, 1, 2, 1, 2, 1, 1};
    private static final int W_DECLARE_CONST = 0;
    private static final int W_DECLARE_FUN = 1;
    private static final int W_DEFINE_FUN = 2;
    private static final int W_ASSERT = 3;
    private static final int W_TERM = 4;
    private static final int W_PUSH = 5;
    private static final int W_POP = 6;
    private static final int W_LET = 7;
    private static final int W_TRUE = 15;
    private static final int W_FALSE = 16;
    private static final int W_INT = 18;
    private static final int W_BOOL = 19;
    private static final int W_ARRAY = 20;
    private static final int W_PLUS = 27;
    private static final int W_MINUS = 28;

    /** By word: the kind it makes (NONE: no OP), its least and most parts, and the sorts that it takes. */
    private static final int[] OP_KIND = {-1, -1, -1, -1, -1, -1, -1, -1, 4, 3, 6, 10, 11, 9, 12, -1, -1,
        15, -1, -1, -1, 14, 13, 16, 17, 18, 19, 5, 5};
    private static final int[] OP_LEAST = {0, 0, 0, 0, 0, 0, 0, 0, 3, 2, 3, 1, 1, 1, 2, 0, 0,
        2, 0, 0, 0, 2, 2, 2, 2, 2, 2, 2, 1};
    private static final int[] OP_MOST = {0, 0, 0, 0, 0, 0, 0, 0, 3, 2, 3, 8, 8, 1, 8, 0, 0,
        8, 0, 0, 0, 8, 8, 8, 8, 8, 8, 8, 2};
    private static final int[] KIND_WORD = {-1, -1, -1, 9, 8, 27, 10, 15, 16, 13, 11, 12, 14, 22, 21, 17,
        23, 24, 25, 26};

    /** A token is its type and, below that, its number: a numeral's, a word's, a symbol's, a slot's. */
    private static final int TYPE_SHIFT = 20;
    private static final int OPERAND = (1 << TYPE_SHIFT) - 1;
    private static final int T_OPEN = 1;
    private static final int T_CLOSE = 2;
    private static final int T_NUMERAL = 3;
    private static final int T_NAME = 4;
    private static final int T_WORD = 5;
    private static final int T_SLOT = 6;
    private static final int T_SYMBOL = 7;
    private static final int OPEN = T_OPEN << TYPE_SHIFT;
    private static final int CLOSE = T_CLOSE << TYPE_SHIFT;

    /** How two numbers can lie: below, alike, above. What the kinds 14 to 19 accept of these. */
    private static final int BELOW = 1;
    private static final int ALIKE = 2;
    private static final int ABOVE = 4;
    private static final int ANYHOW = 7;
    private static final int[] ACCEPTS = {ALIKE, BELOW | ABOVE, BELOW, BELOW | ALIKE, ABOVE, ALIKE | ABOVE};

    private static final int OPEN_VERDICT = 2;

    private static final int FLAW_DEAD = 1;
    private static final int FLAW_BOOL = 2;
    private static final int FLAW_EQUATION = 3;
    private static final int FLAW_PAIR = 4;
    private static final int FLAW_MERGE = 5;

    private static final int SEEK_ANY = 0;
    private static final int SEEK_LEAST = 1;
    private static final int SEEK_MOST = 2;

    private final Text text;
    private final Symbols symbols;
    private final Terms terms;
    private final Docket docket;
    private final Clerk clerk;
    private final Question question;
    private final Search search;
    private final Proof proof;
    private final Pen pen;
    private final int[] modelValue = new int[MAX_TERMS];
    private int failedAt = NONE;
    private int satisfiable = NONE;
    private boolean modelReady = false;
    private int coreMask = NONE;
    private long neverTrue = 0;
    private long neverFalse = 0;

    public TheoryCourt() {
        text = new Text();
        symbols = new Symbols();
        terms = new Terms();
        docket = new Docket();
        clerk = new Clerk(text, symbols, terms, docket);
        question = new Question(terms);
        search = new Search(terms, question);
        proof = new Proof(terms, docket);
        pen = new Pen(terms, symbols);
    }

    public int feed(int a, int b, int c, int d, int e) {
        if (text.size + FEED > MAX_TAPE) {
            return NONE;
        }
        text.put(a);
        text.put(b);
        text.put(c);
        text.put(d);
        text.put(e);
        return text.size;
    }

    public int end(int n) {
        if (n < 0 || n > FEED || text.size < FEED) {
            return NONE;
        }
        text.size -= FEED - n;
        return text.size;
    }

    public int run() {
        int answer = SYNTAX;
        if (text.isCommand()) {
            answer = clerk.execute();
            failedAt = clerk.failedAt();
            if (answer >= 0) {
                forget(text.code[1] & OPERAND);
            }
        } else {
            failedAt = text.bad;
        }
        text.size = 0;
        return answer;
    }

    /** What was found out goes where the command may have changed it. */
    private void forget(int word) {
        if (word == W_ASSERT || word == W_TERM || word == W_POP) {
            modelReady = false;
        }
        if (word == W_ASSERT || word == W_POP) {
            satisfiable = NONE;
            coreMask = NONE;
            neverTrue = 0;
            neverFalse = 0;
            search.seenTrue = 0;
            search.seenFalse = 0;
        }
        if (word == W_POP) {
            proof.dropAll();
        }
    }

    public int place() {
        return failedAt;
    }

    public int count(int what) {
        switch (what) {
            case 0:
                return symbols.size;
            case 1:
                return terms.size;
            case 2:
                return docket.assertions;
            case 3:
                return docket.levels;
            default:
                return what >= 4 && what <= 9 ? terms.tally(what - 4) : NONE;
        }
    }

    public int term(int k, int what) {
        if (!terms.has(k)) {
            return NONE;
        }
        switch (what) {
            case 0:
                return terms.kind[k];
            case 1:
                return terms.sort[k];
            case 2:
                return terms.isNumbered(k) ? terms.number[k] : NONE;
            case 3:
                return terms.parts[k];
            default:
                return what >= 4 && what - 4 < terms.parts[k] ? terms.part(k, what - 4) : NONE;
        }
    }

    public int asserted(int i) {
        return docket.has(i) ? docket.assertion[i] : NONE;
    }

    public int check() {
        if (satisfiable == NONE) {
            satisfiable = canAll((1 << docket.assertions) - 1) ? 1 : 0;
        }
        return satisfiable;
    }

    /** Whether the assertions of the mask can all be true. */
    private boolean canAll(int mask) {
        demandAll(mask);
        question.gather(false, NONE, NONE);
        return search.seek(SEEK_ANY, NONE, NONE);
    }

    private void demandAll(int mask) {
        question.begin();
        for (int i = 0; i < docket.assertions; i++) {
            if ((mask >> i & 1) == 1) {
                question.demand(docket.assertion[i], 1);
            }
        }
    }

    public int value(int k) {
        if (!terms.has(k) || terms.sort[k] == ARRAY) {
            return NONE;
        }
        return findModel() ? modelValue[k] : UNSAT;
    }

    private boolean findModel() {
        if (check() == 0) {
            return false;
        }
        if (!modelReady) {
            demandAll((1 << docket.assertions) - 1);
            question.gather(true, NONE, NONE);
            modelReady = search.seek(SEEK_LEAST, NONE, NONE);
            System.arraycopy(search.bestValue, 0, modelValue, 0, MAX_TERMS);
        }
        return modelReady;
    }

    public int core(int i) {
        if (!docket.has(i) || check() == 1) {
            return NONE;
        }
        findCore();
        return coreMask >> i & 1;
    }

    private void findCore() {
        if (coreMask != NONE) {
            return;
        }
        int mask = (1 << docket.assertions) - 1;
        for (int i = docket.assertions - 1; i >= 0; i--) {
            int without = mask & ~(1 << i);
            if (!canAll(without)) {
                mask = without;
            }
        }
        coreMask = mask;
    }

    public int holds(int k) {
        if (!terms.has(k) || terms.sort[k] != BOOL) {
            return NONE;
        }
        if (check() == 0) {
            return UNSAT;
        }
        boolean canHold = canBe(k, 1);
        boolean canFail = canBe(k, 0);
        if (canHold && canFail) {
            return 2;
        }
        return canHold ? 1 : 0;
    }

    /** Whether there is a model in which Bool term k is so; what any search has seen is used again. */
    private boolean canBe(int k, int wanted) {
        long bit = 1L << k;
        long seen = wanted == 1 ? search.seenTrue : search.seenFalse;
        long never = wanted == 1 ? neverTrue : neverFalse;
        if ((seen & bit) != 0 || (never & bit) != 0) {
            return (seen & bit) != 0;
        }
        demandAll((1 << docket.assertions) - 1);
        question.demand(k, wanted);
        question.gather(false, NONE, NONE);
        if (search.seek(SEEK_ANY, NONE, NONE)) {
            return true;
        }
        if (wanted == 1) {
            neverTrue |= bit;
        } else {
            neverFalse |= bit;
        }
        return false;
    }

    public long apart(int i, int j) {
        if (!terms.has(i) || !terms.has(j) || terms.sort[i] != INT || terms.sort[j] != INT) {
            return -FAR;
        }
        if (check() == 0) {
            return UNSAT;
        }
        demandAll((1 << docket.assertions) - 1);
        question.gather(false, i, j);
        if (!search.seek(SEEK_MOST, i, j)) {
            return UNSAT;
        }
        return search.most >= Search.ENDLESS ? FAR : search.most;
    }

    public int write(int k) {
        return terms.has(k) ? pen.draw(k) : NONE;
    }

    public int out(int i) {
        return i >= 0 && i < pen.size ? pen.bytes[i] : NONE;
    }

    public int symbol(int s, int i) {
        return symbols.has(s) ? symbols.tell(s, i) : NONE;
    }

    public int literal(int l) {
        return proof.add(l);
    }

    public int step(int rule, int a, int b) {
        return proof.prove(rule, a, b);
    }

    public int clear() {
        int had = proof.draftSize;
        proof.draftSize = 0;
        return had;
    }

    public int clause(int k, int i) {
        return proof.tell(k, i);
    }

    public int refuted() {
        return proof.firstEmpty();
    }

    public int sure() {
        if (check() == 0) {
            findCore();
            return canAll(coreMask) ? 0 : 1;
        }
        if (!findModel()) {
            return 0;
        }
        for (int i = 0; i < docket.assertions; i++) {
            if (modelValue[docket.assertion[i]] != 1) {
                return 0;
            }
        }
        return 1;
    }

    /** The tape, its tokens, and whether these make a command. */
    private static final class Text {
        private static final int IN_LIST = -1;
        private static final int IN_LET = -2;

        final byte[] tape = new byte[MAX_TAPE];
        final int[] code = new int[MAX_TOKENS];
        final int[] at = new int[MAX_TOKENS];
        final int[] length = new int[MAX_TOKENS];
        /** By open term: how many terms it has, or where in a let it is. */
        private final int[] nest = new int[MAX_OPEN + 1];
        int size = 0;
        int tokens = 0;
        int bad = NONE;
        private int pos = 0;
        private int open = 0;
        private int ahead = 0;

        void put(int word) {
            for (int shift = 24; shift >= 0; shift -= 8) {
                if (size < MAX_TAPE) {
                    tape[size] = (byte) (word >> shift);
                    size++;
                }
            }
        }

        boolean isCommand() {
            tokens = 0;
            pos = 0;
            open = 0;
            bad = NONE;
            want(OPEN);
            int word = next();
            if (bad == NONE) {
                readRest(word);
            }
            skipBlanks();
            if (bad == NONE && pos < size) {
                bad = pos;
            }
            return bad == NONE;
        }

        private void readRest(int word) {
            switch (word - (T_WORD << TYPE_SHIFT)) {
                case W_DECLARE_CONST:
                    wantName();
                    readSort(next());
                    break;
                case W_DECLARE_FUN:
                    wantName();
                    want(OPEN);
                    readSorts();
                    readSort(next());
                    break;
                case W_DEFINE_FUN:
                    wantName();
                    want(OPEN);
                    readParameters();
                    readSort(next());
                    readTerm();
                    break;
                case W_ASSERT:
                case W_TERM:
                    readTerm();
                    break;
                case W_PUSH:
                case W_POP:
                    break;
                default:
                    refuse();
                    break;
            }
            want(CLOSE);
        }

        private void readSorts() {
            int token = next();
            for (int i = 0; i < MAX_TOKENS && bad == NONE && token != CLOSE; i++) {
                readSort(token);
                token = next();
            }
        }

        private void readParameters() {
            int token = next();
            for (int i = 0; i < MAX_TOKENS && bad == NONE && token == OPEN; i++) {
                wantName();
                readSort(next());
                want(CLOSE);
                token = next();
            }
            if (token != CLOSE) {
                refuse();
            }
        }

        private void readSort(int token) {
            if (token == OPEN) {
                want(word(W_ARRAY));
                want(word(W_INT));
                want(word(W_INT));
                want(CLOSE);
            } else if (token != word(W_INT) && token != word(W_BOOL)) {
                refuse();
            }
        }

        /** Terms within terms are kept on a row of open ones, so that no call stands in itself. */
        private void readTerm() {
            int depth = 0;
            int token = next();
            for (int i = 0; i < MAX_TOKENS && bad == NONE; i++) {
                if (token == OPEN) {
                    depth++;
                    openTerm(depth);
                    token = next();
                } else if (isLeaf(token)) {
                    depth = closeTerms(depth);
                    if (depth == 0) {
                        return;
                    }
                    token = ahead;
                } else {
                    refuse();
                }
            }
        }

        private void openTerm(int depth) {
            int head = next();
            if (bad != NONE || depth > MAX_OPEN) {
                refuse();
                return;
            }
            if (head == word(W_LET)) {
                nest[depth] = IN_LIST;
                want(OPEN);
                want(OPEN);
                wantName();
            } else if (head >> TYPE_SHIFT == T_NAME || isOperation(head)) {
                nest[depth] = 0;
            } else {
                refuse();
            }
        }

        /** A term has ended: all that ends with it does; how many stay open, what comes then is ahead. */
        private int closeTerms(int from) {
            int depth = from;
            for (int i = 0; i <= MAX_OPEN && depth > 0 && bad == NONE; i++) {
                ahead = next();
                if (nest[depth] >= 0 && ahead != CLOSE) {
                    nest[depth]++;
                    if (nest[depth] >= MAX_PARTS) {
                        refuse();
                    }
                    return depth;
                }
                if (ahead != CLOSE) {
                    refuse();
                } else if (nest[depth] == IN_LIST) {
                    endBinding(depth);
                    return depth;
                }
                depth--;
            }
            return depth;
        }

        private void endBinding(int depth) {
            int token = next();
            if (token == OPEN) {
                wantName();
            } else if (token == CLOSE) {
                nest[depth] = IN_LET;
            } else {
                refuse();
            }
            ahead = next();
        }

        private static boolean isLeaf(int token) {
            int type = token >> TYPE_SHIFT;
            return type == T_NUMERAL || type == T_NAME || token == word(W_TRUE) || token == word(W_FALSE);
        }

        private static boolean isOperation(int token) {
            int number = token & OPERAND;
            return token >> TYPE_SHIFT == T_WORD && number < OP_KIND.length && OP_KIND[number] != NONE;
        }

        private static int word(int number) {
            return (T_WORD << TYPE_SHIFT) + number;
        }

        private void want(int wanted) {
            if (next() != wanted) {
                refuse();
            }
        }

        private void wantName() {
            if (next() >> TYPE_SHIFT != T_NAME) {
                refuse();
            }
        }

        /** The latest token cannot stand there, unless a fault was found before. */
        private void refuse() {
            if (bad == NONE) {
                bad = tokens > 0 ? at[tokens - 1] : 0;
            }
        }

        private int next() {
            if (bad != NONE) {
                return 0;
            }
            skipBlanks();
            int run = 1;
            int made = 0;
            if (pos < size && tokens < MAX_TOKENS) {
                int first = tape[pos] & 255;
                if (first == '(') {
                    made = open < MAX_OPEN ? OPEN : 0;
                    open++;
                } else if (first == ')') {
                    made = CLOSE;
                    open--;
                } else {
                    run = lengthOfRun();
                    made = isDigit(first) ? numeral(run) : symbolToken(run);
                }
            }
            if (made == 0) {
                bad = pos;
                return 0;
            }
            code[tokens] = made;
            at[tokens] = pos;
            length[tokens] = run;
            tokens++;
            pos += run;
            return made;
        }

        private void skipBlanks() {
            for (int i = pos; i < size && isBlank(tape[i]); i++) {
                pos = i + 1;
            }
        }

        private int lengthOfRun() {
            int run = 0;
            for (int i = pos; i < size && isSymbolByte(tape[i] & 255); i++) {
                run++;
            }
            return run;
        }

        private int numeral(int run) {
            if (run > MAX_DIGITS || run > 1 && tape[pos] == '0') {
                return 0;
            }
            int number = 0;
            for (int i = pos; i < pos + run; i++) {
                if (!isDigit(tape[i])) {
                    return 0;
                }
                number = number * 10 + tape[i] - '0';
            }
            return (T_NUMERAL << TYPE_SHIFT) + number;
        }

        private int symbolToken(int run) {
            if (run == 0 || run > MAX_NAME) {
                return 0;
            }
            for (int w = 0; w < WORD_AT.length; w++) {
                if (WORD_LENGTH[w] == run && isWord(WORD_AT[w], run)) {
                    return word(w);
                }
            }
            return T_NAME << TYPE_SHIFT;
        }

        private boolean isWord(int from, int run) {
            for (int i = 0; i < run; i++) {
                if (WORDS.charAt(from + i) != tape[pos + i]) {
                    return false;
                }
            }
            return true;
        }

        private static boolean isBlank(int c) {
            return c == 9 || c == 10 || c == 13 || c == 32;
        }

        private static boolean isDigit(int c) {
            return c >= '0' && c <= '9';
        }

        private static boolean isSymbolByte(int c) {
            return c >= 'a' && c <= 'z' || c >= 'A' && c <= 'Z' || isDigit(c) || MARKS.indexOf((char) c) >= 0;
        }

        int typeOf(int token) {
            return token >= 0 && token < tokens ? code[token] >> TYPE_SHIFT : 0;
        }

        int operandOf(int token) {
            return token >= 0 && token < tokens ? code[token] & OPERAND : 0;
        }

        int placeOf(int token) {
            return token >= 0 && token < tokens ? at[token] : NONE;
        }

        boolean sameName(int one, int other) {
            int a = placeOf(one);
            int b = placeOf(other);
            if (a < 0 || b < 0 || length[one] != length[other]) {
                return false;
            }
            for (int i = 0; i < length[one]; i++) {
                if (tape[a + i] != tape[b + i]) {
                    return false;
                }
            }
            return true;
        }
    }

    /** What is declared and defined; the terms of define-funs are kept as tokens, with their names found. */
    private static final class Symbols {
        private final byte[] names = new byte[MAX_SYMBOLS * MAX_NAME];
        private final int[] nameLength = new int[MAX_SYMBOLS];
        private final int[] takeSorts = new int[MAX_SYMBOLS * MAX_TAKES];
        private final int[][] bodies = new int[MAX_SYMBOLS][];
        final int[] takes = new int[MAX_SYMBOLS];
        final int[] gives = new int[MAX_SYMBOLS];
        int size = 0;

        boolean has(int s) {
            return s >= 0 && s < size;
        }

        int find(Text text, int token) {
            for (int s = 0; s < size; s++) {
                if (isNamed(s, text, token)) {
                    return s;
                }
            }
            return NONE;
        }

        private boolean isNamed(int s, Text text, int token) {
            int from = text.placeOf(token);
            if (from < 0 || text.length[token] != nameLength[s]) {
                return false;
            }
            for (int i = 0; i < nameLength[s]; i++) {
                if (names[s * MAX_NAME + i] != text.tape[from + i]) {
                    return false;
                }
            }
            return true;
        }

        /** The caller has looked that there is room, and that the NAME is new. */
        int add(Text text, int token, int[] sorts, int count, int sort) {
            int s = size;
            int from = text.placeOf(token);
            if (s >= MAX_SYMBOLS || from < 0 || count > MAX_TAKES) {
                return NONE;
            }
            nameLength[s] = Math.min(text.length[token], MAX_NAME);
            System.arraycopy(text.tape, from, names, s * MAX_NAME, nameLength[s]);
            System.arraycopy(sorts, 0, takeSorts, s * MAX_TAKES, count);
            takes[s] = count;
            gives[s] = sort;
            bodies[s] = null;
            size++;
            return s;
        }

        void define(int s, int[] code, int from, int to) {
            if (has(s) && from >= 0 && from <= to && to <= code.length) {
                bodies[s] = Arrays.copyOfRange(code, from, to);
            }
        }

        int sortTaken(int s, int i) {
            return takeSorts[s * MAX_TAKES + i];
        }

        boolean isDefined(int s) {
            return bodies[s] != null;
        }

        int bodyLength(int s) {
            int[] body = bodies[s];
            return body == null ? 0 : body.length;
        }

        int bodyToken(int s, int i) {
            int[] body = bodies[s];
            return body == null || i < 0 || i >= body.length ? 0 : body[i];
        }

        int lengthOfName(int s) {
            return nameLength[s];
        }

        int nameByte(int s, int i) {
            return names[s * MAX_NAME + i];
        }

        int tell(int s, int i) {
            switch (i) {
                case -1:
                    return nameLength[s];
                case -2:
                    return takes[s];
                case -3:
                    return gives[s];
                case -4:
                    return isDefined(s) ? 1 : 0;
                default:
                    return i >= 0 && i < nameLength[s] ? nameByte(s, i) : NONE;
            }
        }
    }

    /** The shared terms: parts have lower numbers than what they are parts of. */
    private static final class Terms {
        private static final int TALLIES = 7;
        private static final int INT_UNITS = 0;
        private static final int BOOL_UNITS = 1;
        private static final int ARRAYS = 2;
        private static final int PLACES = 3;
        private static final int EQUATIONS = 4;
        private static final int COMPARISONS = 5;
        private static final int INT_ITES = 6;
        private static final int[] ROOM = {6, 4, 4, 3, 3, 12, 3};

        final int[] kind = new int[MAX_TERMS];
        final int[] number = new int[MAX_TERMS];
        final int[] sort = new int[MAX_TERMS];
        final int[] parts = new int[MAX_TERMS];
        private final int[] partRow = new int[MAX_TERMS * MAX_PARTS];
        /** A row of tallies for each number of terms, so that terms go without counting anew. */
        private final int[] tallies = new int[(MAX_TERMS + 1) * TALLIES];
        int size = 0;

        boolean has(int t) {
            return t >= 0 && t < size;
        }

        int part(int t, int i) {
            return partRow[t * MAX_PARTS + i];
        }

        boolean isNumbered(int t) {
            return kind[t] <= APPLICATION || kind[t] == PLUS;
        }

        int tally(int which) {
            return tallies[size * TALLIES + which];
        }

        boolean isOverfull() {
            for (int i = 0; i < TALLIES; i++) {
                if (tally(i) > ROOM[i]) {
                    return true;
                }
            }
            return false;
        }

        /** The term that is so, made if there is none; NONE when it would be the 65th. */
        int make(int newKind, int newNumber, int newSort, int[] row, int from, int count) {
            for (int t = 0; t < size; t++) {
                if (kind[t] == newKind && number[t] == newNumber && parts[t] == count && hasParts(t, row, from)) {
                    return t;
                }
            }
            if (size >= MAX_TERMS || count > MAX_PARTS) {
                return NONE;
            }
            int t = size;
            kind[t] = newKind;
            number[t] = newNumber;
            sort[t] = newSort;
            parts[t] = count;
            for (int i = 0; i < count; i++) {
                partRow[t * MAX_PARTS + i] = row[from + i];
            }
            addTallies(t);
            size++;
            return t;
        }

        private boolean hasParts(int t, int[] row, int from) {
            for (int i = 0; i < parts[t]; i++) {
                if (part(t, i) != row[from + i]) {
                    return false;
                }
            }
            return true;
        }

        private void addTallies(int t) {
            int row = (t + 1) * TALLIES;
            System.arraycopy(tallies, t * TALLIES, tallies, row, TALLIES);
            if (isUnit(t)) {
                tallies[row + (sort[t] == INT ? INT_UNITS : BOOL_UNITS)]++;
            }
            if (sort[t] == ARRAY) {
                tallies[row + ARRAYS]++;
            }
            if (isNewPlace(t)) {
                tallies[row + PLACES]++;
            }
            if (kind[t] == ITE && sort[t] == INT) {
                tallies[row + INT_ITES]++;
            }
            if (kind[t] >= EQUAL) {
                int side = sort[part(t, 0)];
                if (side == ARRAY) {
                    tallies[row + EQUATIONS] += pairs(t);
                } else if (side == INT) {
                    tallies[row + COMPARISONS] += pairs(t);
                }
            }
        }

        boolean isUnit(int t) {
            return sort[t] != ARRAY && kind[t] >= NAME && kind[t] <= SELECT;
        }

        private int pairs(int t) {
            return kind[t] == DISTINCT ? parts[t] * (parts[t] - 1) / 2 : parts[t] - 1;
        }

        boolean hasPlace(int t) {
            return kind[t] == SELECT || kind[t] == STORE;
        }

        private boolean isNewPlace(int t) {
            if (!hasPlace(t)) {
                return false;
            }
            for (int earlier = 0; earlier < t; earlier++) {
                if (hasPlace(earlier) && part(earlier, 1) == part(t, 1)) {
                    return false;
                }
            }
            return true;
        }

        /** The last part that part i is told together with: all behind it in DISTINCT, else the next one. */
        int lastPartner(int t, int i) {
            int next = Math.min(i + 1, parts[t] - 1);
            return kind[t] == DISTINCT ? parts[t] - 1 : next;
        }
    }

    /** Assertions, and the levels that they come and go by. */
    private static final class Docket {
        final int[] assertion = new int[MAX_ASSERTIONS];
        int assertions = 0;
        int levels = 0;
        private final int[] symbolsBefore = new int[MAX_LEVELS];
        private final int[] termsBefore = new int[MAX_LEVELS];
        private final int[] assertionsBefore = new int[MAX_LEVELS];

        boolean has(int i) {
            return i >= 0 && i < assertions;
        }

        int add(int t) {
            if (assertions >= MAX_ASSERTIONS) {
                return NONE;
            }
            assertion[assertions] = t;
            assertions++;
            return assertions - 1;
        }

        boolean open(Symbols symbols, Terms terms) {
            if (levels >= MAX_LEVELS) {
                return false;
            }
            symbolsBefore[levels] = symbols.size;
            termsBefore[levels] = terms.size;
            assertionsBefore[levels] = assertions;
            levels++;
            return true;
        }

        boolean shut(Symbols symbols, Terms terms) {
            if (levels <= 0) {
                return false;
            }
            levels--;
            symbols.size = symbolsBefore[levels];
            terms.size = termsBefore[levels];
            assertions = assertionsBefore[levels];
            return true;
        }
    }

    /**
     * Makes terms of tokens. What is open is kept on a row of frames, for terms of define-funs stand in
     * one another deeper than calls may.
     */
    private static final class Reader {
        private static final int MAX_VALUES = 4600;
        private static final int MAX_FRAMES = 600;
        private static final int MAX_MOVES = 20000;
        private static final int F_OPERATION = 0;
        private static final int F_APPLICATION = 1;
        private static final int F_BINDING = 2;
        private static final int F_LET_BODY = 3;
        private static final int F_DEFINITION = 4;
        private static final int COMMAND = -1;

        private final Text text;
        private final Symbols symbols;
        private final Terms terms;
        private final int[] values = new int[MAX_VALUES];
        /** By value: the NAME token that it is seen by; below NONE: will be seen by; NONE. */
        private final int[] names = new int[MAX_VALUES];
        private final int[] frameKind = new int[MAX_FRAMES];
        private final int[] frameHead = new int[MAX_FRAMES];
        private final int[] frameFloor = new int[MAX_FRAMES];
        private final int[] frameToken = new int[MAX_FRAMES];
        private final int[] frameBase = new int[MAX_FRAMES];
        private int top = 0;
        private int frames = 0;
        private int source = COMMAND;
        private int pc = 0;
        private int base = 0;
        private int read = 0;
        private int callToken = 0;
        private boolean defining = false;
        int fault = 0;
        int faultPlace = NONE;

        Reader(Text text, Symbols symbols, Terms terms) {
            this.text = text;
            this.symbols = symbols;
            this.terms = terms;
        }

        void begin(boolean forDefinition) {
            top = 0;
            frames = 0;
            source = COMMAND;
            base = 0;
            read = 0;
            defining = forDefinition;
            fault = 0;
            faultPlace = NONE;
        }

        void fail(int code, int token) {
            if (fault == 0) {
                fault = code;
                faultPlace = text.placeOf(source == COMMAND ? token : callToken);
            }
        }

        void failRoom() {
            if (fault == 0) {
                fault = FAULT_ROOM;
                faultPlace = text.placeOf(1);
            }
        }

        /** A parameter is a term that no symbol has: its number lies behind all symbols'. */
        void addParameter(int token, int index, int sort) {
            push(make(NAME, MAX_SYMBOLS + index, sort, 0, 0));
            if (fault == 0) {
                names[top - 1] = token;
            }
        }

        /** The term of the command's tokens from the first to before the last; NONE at a fault. */
        int readTerm(int first, int last) {
            pc = first;
            for (int i = 0; i < MAX_MOVES && fault == 0; i++) {
                int limit = source == COMMAND ? last : symbols.bodyLength(source);
                if (pc < limit) {
                    take(tokenAt(pc));
                } else if (source == COMMAND) {
                    break;
                } else {
                    leaveDefinition();
                }
            }
            return fault == 0 && top > 0 ? values[top - 1] : NONE;
        }

        private int tokenAt(int i) {
            if (source != COMMAND) {
                return symbols.bodyToken(source, i);
            }
            return i >= 0 && i < text.tokens ? text.code[i] : 0;
        }

        private void take(int token) {
            int operand = token & OPERAND;
            switch (token >> TYPE_SHIFT) {
                case T_OPEN:
                    openTerm();
                    return;
                case T_CLOSE:
                    closeTerm();
                    return;
                case T_NUMERAL:
                    push(make(CONSTANT, operand, INT, 0, 0));
                    pc++;
                    return;
                case T_WORD:
                    push(make(operand == W_TRUE ? TRUE : FALSE, 0, BOOL, 0, 0));
                    pc++;
                    return;
                case T_SLOT:
                    push(base + operand < top ? values[base + operand] : NONE);
                    pc++;
                    return;
                case T_SYMBOL:
                    takeSymbol(operand);
                    return;
                default:
                    findName(pc);
            }
        }

        /** A NAME becomes a slot or a symbol, in its token, too: so a define-fun's term keeps what it meant. */
        private void findName(int token) {
            for (int i = top - 1; i >= 0; i--) {
                if (names[i] >= 0 && text.sameName(names[i], token)) {
                    text.code[token] = (T_SLOT << TYPE_SHIFT) + i;
                    return;
                }
            }
            findSymbol(token);
        }

        private void findSymbol(int token) {
            int s = symbols.find(text, token);
            if (s == NONE) {
                fail(FAULT_UNKNOWN, token);
            } else {
                text.code[token] = (T_SYMBOL << TYPE_SHIFT) + s;
            }
        }

        private void takeSymbol(int s) {
            int token = pc;
            pc++;
            if (symbols.takes[s] > 0) {
                fail(FAULT_PARTS, token);
            } else if (symbols.isDefined(s)) {
                enterDefinition(s, top, token);
            } else {
                push(make(NAME, s, symbols.gives[s], 0, 0));
            }
        }

        private void openTerm() {
            int head = pc + 1;
            if (tokenAt(head) >> TYPE_SHIFT == T_NAME) {
                findSymbol(head);
            }
            int token = tokenAt(head);
            int operand = token & OPERAND;
            if (fault != 0) {
                return;
            }
            if (token >> TYPE_SHIFT == T_SYMBOL) {
                pushFrame(F_APPLICATION, operand, top, head);
                pc += 2;
            } else if (operand != W_LET) {
                pushFrame(F_OPERATION, operand, top, head);
                pc += 2;
            } else {
                pushFrame(F_BINDING, head, top, head);
                pc += 3;
                beginBinding();
            }
        }

        /** At the ( before a NAME of let; names within define-funs' terms were looked at when these came. */
        private void beginBinding() {
            int name = pc + 1;
            int frame = frames - 1;
            pc += 2;
            if (source != COMMAND || frame < 0) {
                return;
            }
            for (int i = frameFloor[frame]; i < top; i++) {
                if (text.sameName(-2 - names[i], name)) {
                    fail(FAULT_TWICE, name);
                }
            }
            frameHead[frame] = name;
        }

        private void closeTerm() {
            int frame = frames - 1;
            pc++;
            if (frame < 0) {
                failRoom();
                return;
            }
            switch (frameKind[frame]) {
                case F_OPERATION:
                    operate(frame);
                    break;
                case F_APPLICATION:
                    apply(frame);
                    break;
                case F_BINDING:
                    endBinding(frame);
                    break;
                default:
                    endFrame(top > 0 ? values[top - 1] : NONE);
                    break;
            }
        }

        private void endBinding(int frame) {
            if (source == COMMAND && top > 0) {
                names[top - 1] = -2 - frameHead[frame];
            }
            if (tokenAt(pc) == OPEN) {
                beginBinding();
                return;
            }
            pc++;
            frameKind[frame] = F_LET_BODY;
            for (int i = frameFloor[frame]; source == COMMAND && i < top; i++) {
                names[i] = -2 - names[i];
            }
        }

        private void operate(int frame) {
            int op = frameHead[frame];
            int floor = frameFloor[frame];
            int token = frameToken[frame];
            int count = top - floor;
            if (count < OP_LEAST[op] || count > OP_MOST[op]) {
                fail(FAULT_PARTS, token);
            } else if (!sortsFit(OP_KIND[op], floor, count)) {
                fail(FAULT_SORT, token);
            } else if (OP_KIND[op] == PLUS) {
                endFrame(sum(op, floor, count, token));
            } else {
                endFrame(make(OP_KIND[op], 0, sortMade(OP_KIND[op], floor), floor, count));
            }
        }

        private int sortAt(int i) {
            return terms.sort[values[i]];
        }

        private int sortMade(int kind, int floor) {
            switch (kind) {
                case ITE:
                    return sortAt(floor + 1);
                case SELECT:
                    return INT;
                case STORE:
                    return ARRAY;
                default:
                    return BOOL;
            }
        }

        private boolean sortsFit(int kind, int floor, int count) {
            switch (kind) {
                case ITE:
                    return sortAt(floor) == BOOL && sortAt(floor + 1) == sortAt(floor + 2);
                case SELECT:
                case STORE:
                    return sortAt(floor) == ARRAY && areAll(INT, floor + 1, count - 1);
                case EQUAL:
                case DISTINCT:
                    return areAll(sortAt(floor), floor, count);
                default:
                    return areAll(kind >= NOT && kind <= IMPLIES ? BOOL : INT, floor, count);
            }
        }

        private boolean areAll(int sort, int from, int count) {
            for (int i = 0; i < count; i++) {
                if (sortAt(from + i) != sort) {
                    return false;
                }
            }
            return true;
        }

        /** What + and - make: a CONSTANT, a PLUS, or the one term that is no CONSTANT itself. */
        private int sum(int op, int floor, int count, int token) {
            int total = 0;
            int rest = NONE;
            for (int i = 0; i < count; i++) {
                int t = values[floor + i];
                boolean taken = op == W_MINUS && (count == 1 || i == 1);
                if (terms.kind[t] == CONSTANT) {
                    total += taken ? -terms.number[t] : terms.number[t];
                } else if (rest == NONE && !taken) {
                    rest = t;
                } else {
                    fail(FAULT_SUM, token);
                    return NONE;
                }
            }
            if (rest != NONE && terms.kind[rest] == PLUS) {
                total += terms.number[rest];
                rest = terms.part(rest, 0);
            }
            if (total < -MAX_NUMBER || total > MAX_NUMBER) {
                fail(FAULT_NUMBER, token);
                return NONE;
            }
            if (rest == NONE) {
                return make(CONSTANT, total, INT, 0, 0);
            }
            if (total == 0) {
                return rest;
            }
            values[floor] = rest;
            return make(PLUS, total, INT, floor, 1);
        }

        private void apply(int frame) {
            int s = frameHead[frame];
            int floor = frameFloor[frame];
            int token = frameToken[frame];
            int count = top - floor;
            if (count != symbols.takes[s]) {
                fail(FAULT_PARTS, token);
                return;
            }
            for (int i = 0; i < count; i++) {
                if (sortAt(floor + i) != symbols.sortTaken(s, i)) {
                    fail(FAULT_SORT, token);
                }
            }
            if (fault != 0) {
                return;
            }
            if (symbols.isDefined(s)) {
                frames--;
                enterDefinition(s, floor, token);
            } else {
                endFrame(make(APPLICATION, s, symbols.gives[s], floor, count));
            }
        }

        /** The values from floor on stand for the parameters; all tokens count before one is read. */
        private void enterDefinition(int s, int floor, int token) {
            read += symbols.bodyLength(s);
            if (read > MAX_READ) {
                failRoom();
                return;
            }
            if (source == COMMAND) {
                callToken = token;
            }
            pushFrame(F_DEFINITION, source, floor, pc);
            if (fault == 0) {
                frameBase[frames - 1] = base;
                source = s;
                base = floor;
                pc = 0;
            }
        }

        private void leaveDefinition() {
            int frame = frames - 1;
            if (frame < 0) {
                failRoom();
                return;
            }
            source = frameHead[frame];
            pc = frameToken[frame];
            base = frameBase[frame];
            endFrame(top > 0 ? values[top - 1] : NONE);
        }

        private void pushFrame(int kind, int head, int floor, int token) {
            if (frames >= MAX_FRAMES) {
                failRoom();
                return;
            }
            frameKind[frames] = kind;
            frameHead[frames] = head;
            frameFloor[frames] = floor;
            frameToken[frames] = token;
            frames++;
        }

        private void endFrame(int result) {
            if (fault == 0) {
                frames--;
                top = frameFloor[frames];
                push(result);
            }
        }

        private void push(int t) {
            if (t < 0 || top >= MAX_VALUES) {
                failRoom();
            } else {
                values[top] = t;
                names[top] = NONE;
                top++;
            }
        }

        /** Parts are the values from floor on. */
        private int make(int kind, int number, int sort, int floor, int count) {
            int t = terms.make(kind, number, sort, values, floor, count);
            if (t == NONE || !defining && terms.isOverfull()) {
                failRoom();
                return NONE;
            }
            return t;
        }
    }

    /** Carries commands out; one with a fault leaves all as it was. */
    private static final class Clerk {
        private final Text text;
        private final Symbols symbols;
        private final Terms terms;
        private final Docket docket;
        private final Reader reader;
        private final int[] sorts = new int[MAX_TAKES];
        private final int[] parameters = new int[MAX_TAKES];
        private int taken = 0;
        private int cursor = 0;

        Clerk(Text text, Symbols symbols, Terms terms, Docket docket) {
            this.text = text;
            this.symbols = symbols;
            this.terms = terms;
            this.docket = docket;
            this.reader = new Reader(text, symbols, terms);
        }

        int failedAt() {
            return reader.faultPlace;
        }

        int execute() {
            int termsBefore = terms.size;
            int word = text.operandOf(1);
            reader.begin(word == W_DEFINE_FUN);
            int answer = NONE;
            switch (word) {
                case W_DECLARE_CONST:
                    answer = declareConst();
                    break;
                case W_DECLARE_FUN:
                    answer = declareFun();
                    break;
                case W_DEFINE_FUN:
                    answer = defineFun();
                    terms.size = termsBefore;
                    break;
                case W_ASSERT:
                    answer = assertTerm();
                    break;
                case W_TERM:
                    answer = reader.readTerm(2, text.tokens - 1);
                    break;
                case W_PUSH:
                    answer = pushLevel();
                    break;
                default:
                    answer = popLevel();
                    break;
            }
            if (reader.fault != 0) {
                terms.size = termsBefore;
                return -100 - reader.fault;
            }
            return answer;
        }

        private int pushLevel() {
            if (!docket.open(symbols, terms)) {
                reader.failRoom();
            }
            return docket.levels;
        }

        private int popLevel() {
            if (!docket.shut(symbols, terms)) {
                reader.fail(FAULT_POP, 1);
            }
            return docket.levels;
        }

        private int assertTerm() {
            int t = reader.readTerm(2, text.tokens - 1);
            if (reader.fault != 0) {
                return NONE;
            }
            if (terms.sort[t] != BOOL) {
                reader.fail(FAULT_SORT, 2);
                return NONE;
            }
            int i = docket.add(t);
            if (i == NONE) {
                reader.failRoom();
            }
            return i;
        }

        private int declareConst() {
            lookAtName();
            cursor = 3;
            return addSymbol(readSort());
        }

        private int declareFun() {
            lookAtName();
            cursor = 4;
            for (int i = 0; i < MAX_TOKENS && text.typeOf(cursor) != T_CLOSE; i++) {
                int first = cursor;
                int sort = readSort();
                if (taken >= MAX_TAKES) {
                    reader.fail(FAULT_PARTS, first);
                } else if (sort != INT) {
                    reader.fail(FAULT_SORT, first);
                } else {
                    sorts[taken] = sort;
                    taken++;
                }
            }
            cursor++;
            int first = cursor;
            int gives = readSort();
            if (taken > 0 && gives == ARRAY) {
                reader.fail(FAULT_SORT, first);
            }
            return addSymbol(gives);
        }

        private int defineFun() {
            lookAtName();
            cursor = 4;
            readParameters();
            cursor++;
            int gives = readSort();
            for (int i = 1; i < taken; i++) {
                lookForTwin(i);
            }
            for (int i = 0; i < taken && reader.fault == 0; i++) {
                reader.addParameter(parameters[i], i, sorts[i]);
            }
            int first = cursor;
            int last = text.tokens - 1;
            int t = reader.readTerm(first, last);
            if (reader.fault == 0 && terms.sort[t] != gives) {
                reader.fail(FAULT_SORT, first);
            }
            int s = addSymbol(gives);
            if (reader.fault == 0) {
                symbols.define(s, text.code, first, last);
            }
            return s;
        }

        private void readParameters() {
            for (int i = 0; i < MAX_TOKENS && text.typeOf(cursor) == T_OPEN; i++) {
                int first = cursor;
                cursor += 2;
                int sort = readSort();
                cursor++;
                if (taken >= MAX_TAKES) {
                    reader.fail(FAULT_PARTS, first);
                } else {
                    parameters[taken] = first + 1;
                    sorts[taken] = sort;
                    taken++;
                }
            }
        }

        private void lookForTwin(int i) {
            for (int j = 0; j < i; j++) {
                if (text.sameName(parameters[j], parameters[i])) {
                    reader.fail(FAULT_TWICE, parameters[i]);
                }
            }
        }

        private void lookAtName() {
            taken = 0;
            if (symbols.find(text, 2) != NONE) {
                reader.fail(FAULT_TWICE, 2);
            }
        }

        private int readSort() {
            int first = cursor;
            if (text.typeOf(first) == T_OPEN) {
                cursor += 5;
                return ARRAY;
            }
            cursor++;
            return text.operandOf(first) == W_INT ? INT : BOOL;
        }

        private int addSymbol(int gives) {
            if (symbols.size >= MAX_SYMBOLS) {
                reader.failRoom();
            }
            return reader.fault == 0 ? symbols.add(text, 2, sorts, taken, gives) : NONE;
        }
    }

    /** One case of a search: how far units lie apart at most, and what is settled of Bools and equations. */
    private static final class State {
        static final int FREE = Integer.MAX_VALUE;
        static final int WIDTH = 7;

        /** At i * WIDTH + j: how much number i is above number j at most; number 0 is 0 itself. */
        final int[] above = new int[WIDTH * WIDTH];
        final int[] x = new int[WIDTH];
        int boolKnown = 0;
        int boolTrue = 0;
        int equalKnown = 0;
        int equalTrue = 0;

        void reset() {
            Arrays.fill(above, FREE);
            for (int i = 0; i < WIDTH; i++) {
                above[i * WIDTH + i] = 0;
            }
            Arrays.fill(x, 0);
            boolKnown = 0;
            boolTrue = 0;
            equalKnown = 0;
            equalTrue = 0;
        }

        void copyFrom(State other) {
            System.arraycopy(other.above, 0, above, 0, WIDTH * WIDTH);
            System.arraycopy(other.x, 0, x, 0, WIDTH);
            boolKnown = other.boolKnown;
            boolTrue = other.boolTrue;
            equalKnown = other.equalKnown;
            equalTrue = other.equalTrue;
        }

        /** Number i is at most c above number j from now on; whether that can be. */
        boolean bound(int i, int j, int c, int nodes) {
            if (above[i * WIDTH + j] <= c) {
                return true;
            }
            int back = above[j * WIDTH + i];
            if (back != FREE && back + c < 0) {
                return false;
            }
            for (int p = 0; p < nodes; p++) {
                int before = above[p * WIDTH + i];
                for (int q = 0; before != FREE && q < nodes; q++) {
                    int behind = above[j * WIDTH + q];
                    if (behind != FREE && before + c + behind < above[p * WIDTH + q]) {
                        above[p * WIDTH + q] = before + c + behind;
                    }
                }
            }
            return true;
        }

        /** One after the other gets the number nearest to 0 that the ones before it leave. */
        void choose(int nodes) {
            x[0] = 0;
            for (int k = 1; k < nodes; k++) {
                int low = -FREE;
                int high = FREE;
                for (int j = 0; j < k; j++) {
                    int up = above[k * WIDTH + j];
                    int down = above[j * WIDTH + k];
                    high = up == FREE ? high : Math.min(high, x[j] + up);
                    low = down == FREE ? low : Math.max(low, x[j] - down);
                }
                x[k] = low > 0 ? low : Math.min(high, 0);
            }
        }
    }

    /** What a search is about: the terms that matter, their units and equations, and what must be so. */
    private static final class Question {
        private final Terms terms;
        private final boolean[] matters = new boolean[MAX_TERMS];
        final int[] used = new int[MAX_TERMS];
        final int[] node = new int[MAX_TERMS];
        final int[] bit = new int[MAX_TERMS];
        final int[] firstEquation = new int[MAX_TERMS];
        final int[] left = new int[Terms.ROOM[Terms.EQUATIONS]];
        final int[] right = new int[Terms.ROOM[Terms.EQUATIONS]];
        final int[] units = new int[Terms.ROOM[Terms.INT_UNITS] + Terms.ROOM[Terms.BOOL_UNITS]];
        final int[] roots = new int[MAX_ASSERTIONS + 1];
        final int[] wanted = new int[MAX_ASSERTIONS + 1];
        int usedCount = 0;
        int nodes = 1;
        int bits = 0;
        int equations = 0;
        int unitCount = 0;
        int rootCount = 0;

        Question(Terms terms) {
            this.terms = terms;
        }

        void begin() {
            rootCount = 0;
        }

        void demand(int t, int so) {
            if (rootCount < roots.length) {
                roots[rootCount] = t;
                wanted[rootCount] = so;
                rootCount++;
            }
        }

        /** All terms, or those below what is demanded and below two more, are what matters. */
        void gather(boolean all, int one, int other) {
            Arrays.fill(matters, all);
            for (int i = 0; i < rootCount; i++) {
                matters[roots[i]] = true;
            }
            if (one >= 0 && other >= 0) {
                matters[one] = true;
                matters[other] = true;
            }
            for (int t = terms.size - 1; t >= 0; t--) {
                for (int i = 0; matters[t] && i < terms.parts[t]; i++) {
                    matters[terms.part(t, i)] = true;
                }
            }
            usedCount = 0;
            nodes = 1;
            bits = 0;
            equations = 0;
            unitCount = 0;
            for (int t = 0; t < terms.size; t++) {
                if (matters[t]) {
                    enlist(t);
                }
            }
        }

        private void enlist(int t) {
            used[usedCount] = t;
            usedCount++;
            if (terms.isUnit(t) && unitCount < units.length) {
                units[unitCount] = t;
                unitCount++;
                if (terms.sort[t] == INT) {
                    node[t] = nodes;
                    nodes++;
                } else {
                    bit[t] = bits;
                    bits++;
                }
            }
            if (isOfArrays(t)) {
                enlistEquations(t);
            }
        }

        private boolean isOfArrays(int t) {
            return terms.kind[t] >= EQUAL && terms.sort[terms.part(t, 0)] == ARRAY;
        }

        private void enlistEquations(int t) {
            firstEquation[t] = equations;
            for (int i = 0; i < terms.parts[t]; i++) {
                for (int j = i + 1; j <= terms.lastPartner(t, i) && equations < left.length; j++) {
                    left[equations] = terms.part(t, i);
                    right[equations] = terms.part(t, j);
                    equations++;
                }
            }
        }
    }

    /** Looks at one case: what is sure in all of it, what is so for its chosen numbers, and what is wrong. */
    private static final class Judge {
        private final Terms terms;
        private final Question question;
        final int[] sure = new int[MAX_TERMS];
        final int[] actual = new int[MAX_TERMS];
        /** By Int term: its unit's node, NONE while an ITE's condition is open, and what is added. */
        final int[] base = new int[MAX_TERMS];
        final int[] offset = new int[MAX_TERMS];
        int flaw = 0;
        int flawA = 0;
        int flawB = 0;
        int flawAccepts = 0;

        Judge(Terms terms, Question question) {
            this.terms = terms;
            this.question = question;
        }

        /** Finds what is sure; whether all that is demanded still can be. */
        boolean assess(State s) {
            for (int i = 0; i < question.usedCount; i++) {
                int t = question.used[i];
                if (terms.sort[t] == INT) {
                    locate(t);
                } else if (terms.sort[t] == BOOL) {
                    sure[t] = verdict(s, t, false);
                }
            }
            for (int i = 0; i < question.rootCount; i++) {
                if (sure[question.roots[i]] == 1 - question.wanted[i]) {
                    return false;
                }
            }
            return true;
        }

        private void locate(int t) {
            int from = t;
            offset[t] = 0;
            switch (terms.kind[t]) {
                case CONSTANT:
                    base[t] = 0;
                    offset[t] = terms.number[t];
                    return;
                case PLUS:
                    from = terms.part(t, 0);
                    break;
                case ITE:
                    from = chosenPart(t);
                    break;
                default:
                    base[t] = question.node[t];
                    return;
            }
            base[t] = from == NONE ? NONE : base[from];
            if (base[t] != NONE) {
                offset[t] = offset[from] + (terms.kind[t] == PLUS ? terms.number[t] : 0);
            }
        }

        /** The part that an ITE is for sure; NONE while its condition is open and the two are not alike. */
        private int chosenPart(int t) {
            int yes = terms.part(t, 1);
            int no = terms.part(t, 2);
            int condition = sure[terms.part(t, 0)];
            if (condition == OPEN_VERDICT) {
                return base[yes] != NONE && base[yes] == base[no] && offset[yes] == offset[no] ? yes : NONE;
            }
            return condition == 1 ? yes : no;
        }

        /** Finds what is so for the chosen numbers; open Bools and equations are false. */
        void evaluate(State s) {
            for (int i = 0; i < question.usedCount; i++) {
                int t = question.used[i];
                if (terms.sort[t] == INT) {
                    actual[t] = number(s, t);
                } else if (terms.sort[t] == BOOL) {
                    actual[t] = verdict(s, t, true);
                }
            }
        }

        private int number(State s, int t) {
            switch (terms.kind[t]) {
                case CONSTANT:
                    return terms.number[t];
                case PLUS:
                    return actual[terms.part(t, 0)] + terms.number[t];
                case ITE:
                    return actual[terms.part(t, actual[terms.part(t, 0)] == 1 ? 1 : 2)];
                default:
                    return s.x[question.node[t]];
            }
        }

        private int verdict(State s, int t, boolean exact) {
            int kind = terms.kind[t];
            switch (kind) {
                case NAME:
                case APPLICATION:
                    return told(s.boolKnown, s.boolTrue, question.bit[t], exact);
                case ITE:
                    return choice(t, exact ? actual : sure);
                case TRUE:
                    return 1;
                case FALSE:
                    return 0;
                default:
                    break;
            }
            int side = terms.sort[terms.part(t, 0)];
            if (side == BOOL) {
                return connect(t, exact ? actual : sure);
            }
            return side == INT ? compareAll(s, t, exact) : equateAll(s, t, exact);
        }

        private static int told(int known, int yes, int which, boolean exact) {
            if ((known >> which & 1) == 0) {
                return exact ? 0 : OPEN_VERDICT;
            }
            return yes >> which & 1;
        }

        private int choice(int t, int[] so) {
            int condition = so[terms.part(t, 0)];
            int yes = so[terms.part(t, 1)];
            int no = so[terms.part(t, 2)];
            if (condition == OPEN_VERDICT) {
                return yes == no ? yes : OPEN_VERDICT;
            }
            return condition == 1 ? yes : no;
        }

        private int connect(int t, int[] so) {
            int count = terms.parts[t];
            int yes = 0;
            int no = 0;
            for (int i = 0; i < count; i++) {
                int part = so[terms.part(t, i)];
                yes += part == 1 ? 1 : 0;
                no += part == 0 ? 1 : 0;
            }
            int open = count - yes - no;
            int last = so[terms.part(t, count - 1)];
            switch (terms.kind[t]) {
                case NOT:
                    return open > 0 ? OPEN_VERDICT : no;
                case AND:
                    return settle(yes == count, no > 0);
                case OR:
                    return settle(yes > 0, no == count);
                case XOR:
                    return open > 0 ? OPEN_VERDICT : yes & 1;
                case IMPLIES:
                    return settle(last == 1 || no - (last == 0 ? 1 : 0) > 0, last == 0 && yes == count - 1);
                case EQUAL:
                    return settle(yes == count || no == count, yes > 0 && no > 0);
                default:
                    return settle(count == 2 && yes == 1 && no == 1, count > 2 || yes > 1 || no > 1);
            }
        }

        private static int settle(boolean holds, boolean fails) {
            if (holds) {
                return 1;
            }
            return fails ? 0 : OPEN_VERDICT;
        }

        private int compareAll(State s, int t, boolean exact) {
            int accepts = ACCEPTS[terms.kind[t] - EQUAL];
            int result = 1;
            for (int i = 0; i < terms.parts[t]; i++) {
                for (int j = i + 1; j <= terms.lastPartner(t, i); j++) {
                    int a = terms.part(t, i);
                    int b = terms.part(t, j);
                    int can = exact ? relation(a, b) : possible(s, a, b);
                    if ((can & accepts) == 0) {
                        return 0;
                    }
                    if ((can & ~accepts) != 0) {
                        result = OPEN_VERDICT;
                    }
                }
            }
            return result;
        }

        private int equateAll(State s, int t, boolean exact) {
            int e = question.firstEquation[t];
            int good = terms.kind[t] == EQUAL ? 1 : 0;
            int result = 1;
            for (int i = 0; i < terms.parts[t]; i++) {
                for (int j = i + 1; j <= terms.lastPartner(t, i); j++) {
                    int so = told(s.equalKnown, s.equalTrue, e, exact);
                    if (so == 1 - good) {
                        return 0;
                    }
                    if (so == OPEN_VERDICT) {
                        result = OPEN_VERDICT;
                    }
                    e++;
                }
            }
            return result;
        }

        int relation(int a, int b) {
            if (actual[a] == actual[b]) {
                return ALIKE;
            }
            return actual[a] < actual[b] ? BELOW : ABOVE;
        }

        /** How a can lie to b in this case. */
        int possible(State s, int a, int b) {
            if (a == b) {
                return ALIKE;
            }
            if (base[a] == NONE || base[b] == NONE) {
                return ANYHOW;
            }
            int more = s.above[base[a] * State.WIDTH + base[b]];
            int less = s.above[base[b] * State.WIDTH + base[a]];
            int shift = offset[a] - offset[b];
            int can = ANYHOW;
            if (more != State.FREE) {
                can &= more + shift > 0 ? ANYHOW : more + shift == 0 ? BELOW | ALIKE : BELOW;
            }
            if (less != State.FREE) {
                can &= less - shift > 0 ? ANYHOW : less - shift == 0 ? ABOVE | ALIKE : ABOVE;
            }
            return can;
        }

        boolean isSettled(State s, int a, int b) {
            int can = possible(s, a, b);
            return can == BELOW || can == ALIKE || can == ABOVE;
        }

        int firstFailed() {
            for (int i = 0; i < question.rootCount; i++) {
                if (actual[question.roots[i]] != question.wanted[i]) {
                    return question.roots[i];
                }
            }
            return NONE;
        }

        /** From an open Bool term down to something that can be settled: that is the flaw then. */
        void trace(State s, int from) {
            int t = from;
            flaw = FLAW_DEAD;
            for (int i = 0; i < MAX_TERMS && t != NONE; i++) {
                t = below(s, t);
            }
        }

        /** The open term to look at below an open term; NONE when the flaw is found. */
        private int below(State s, int t) {
            int kind = terms.kind[t];
            if (kind <= APPLICATION) {
                flaw = FLAW_BOOL;
                flawA = t;
                return NONE;
            }
            if (kind == ITE) {
                int condition = sure[terms.part(t, 0)];
                return terms.part(t, condition == OPEN_VERDICT ? 0 : 2 - condition);
            }
            int side = terms.parts[t] > 0 ? terms.sort[terms.part(t, 0)] : NONE;
            if (side == BOOL) {
                return openPart(t);
            }
            if (side == INT) {
                return openPair(s, t);
            }
            if (side == ARRAY) {
                findOpenEquation(s, t);
            }
            return NONE;
        }

        /** An open part, if there is one that agrees with the whole: to turn that is most likely to help. */
        private int openPart(int t) {
            int found = NONE;
            for (int i = terms.parts[t] - 1; i >= 0; i--) {
                int part = terms.part(t, i);
                if (sure[part] == OPEN_VERDICT && (found == NONE || actual[part] == actual[t])) {
                    found = part;
                }
            }
            return found;
        }

        private int openPair(State s, int t) {
            int accepts = ACCEPTS[terms.kind[t] - EQUAL];
            int a = NONE;
            int b = NONE;
            for (int i = terms.parts[t] - 1; i >= 0; i--) {
                for (int j = terms.lastPartner(t, i); j > i; j--) {
                    int can = possible(s, terms.part(t, i), terms.part(t, j));
                    boolean open = (can & accepts) != 0 && (can & ~accepts) != 0;
                    boolean wrong = (relation(terms.part(t, i), terms.part(t, j)) & accepts) == 0;
                    if (open && (a == NONE || wrong)) {
                        a = terms.part(t, i);
                        b = terms.part(t, j);
                    }
                }
            }
            return a == NONE ? NONE : aimAtPair(a, b, accepts);
        }

        /** Two Int terms are the flaw, unless a condition must be settled ahead of that: it is told then. */
        private int aimAtPair(int a, int b, int accepts) {
            int condition = awaited(a, b);
            if (condition == NONE) {
                flaw = FLAW_PAIR;
                flawA = a;
                flawB = b;
                flawAccepts = accepts;
            }
            return condition;
        }

        private int openCondition(int from) {
            int t = from;
            for (int i = 0; i < MAX_TERMS; i++) {
                if (terms.kind[t] == PLUS) {
                    t = terms.part(t, 0);
                } else if (terms.kind[t] != ITE) {
                    return NONE;
                } else if (sure[terms.part(t, 0)] == OPEN_VERDICT) {
                    return terms.part(t, 0);
                } else {
                    t = terms.part(t, 2 - sure[terms.part(t, 0)]);
                }
            }
            return NONE;
        }

        private void findOpenEquation(State s, int t) {
            int last = question.firstEquation[t];
            for (int i = 0; i < terms.parts[t]; i++) {
                for (int j = i + 1; j <= terms.lastPartner(t, i); j++) {
                    if (flaw == FLAW_DEAD && (s.equalKnown >> last & 1) == 0) {
                        flaw = FLAW_EQUATION;
                        flawA = last;
                    }
                    last++;
                }
            }
        }

        /** How a lies to b is the flaw, or an open condition that one of them hangs on. */
        void blamePair(State s, int a, int b) {
            flaw = FLAW_DEAD;
            int condition = aimAtPair(a, b, ALIKE);
            if (condition != NONE) {
                trace(s, condition);
            }
        }

        /** The two must be the same number in this case. */
        void blameMerge(State s, int a, int b) {
            blamePair(s, a, b);
            if (flaw == FLAW_PAIR) {
                flaw = FLAW_MERGE;
            }
        }

        /** The open condition that one of two Int terms hangs on; NONE when both are located. */
        int awaited(int a, int b) {
            if (base[a] == NONE) {
                return openCondition(a);
            }
            return base[b] == NONE ? openCondition(b) : NONE;
        }
    }

    /**
     * Whether arrays can be as the chosen numbers want them. A slot is what an array has at one of the
     * places that matter; one slot more is all that it has elsewhere, which can always be made different.
     */
    private static final class Slots {
        private static final int WIDTH = 4;
        private static final int ELSEWHERE = 3;

        private final Terms terms;
        private final Question question;
        private final Judge judge;
        private final int[] arrays = new int[Terms.ROOM[Terms.ARRAYS]];
        private final int[] places = new int[Terms.ROOM[Terms.PLACES]];
        private final int[] row = new int[MAX_TERMS];
        private final int[] parent = new int[Terms.ROOM[Terms.ARRAYS] * WIDTH];
        private final int[] content = new int[Terms.ROOM[Terms.ARRAYS] * WIDTH];
        private int arrayCount = 0;
        private int placeCount = 0;
        private int clashA = NONE;
        private int clashB = NONE;

        Slots(Terms terms, Question question, Judge judge) {
            this.terms = terms;
            this.question = question;
            this.judge = judge;
        }

        /** Must be called when the question has been gathered. */
        void gather() {
            arrayCount = 0;
            placeCount = 0;
            for (int i = 0; i < question.usedCount; i++) {
                int t = question.used[i];
                if (terms.sort[t] == ARRAY && arrayCount < arrays.length) {
                    row[t] = arrayCount;
                    arrays[arrayCount] = t;
                    arrayCount++;
                }
                if (terms.hasPlace(t) && placeCount < places.length && !isPlace(terms.part(t, 1))) {
                    places[placeCount] = terms.part(t, 1);
                    placeCount++;
                }
            }
        }

        private boolean isPlace(int t) {
            for (int i = 0; i < placeCount; i++) {
                if (places[i] == t) {
                    return true;
                }
            }
            return false;
        }

        /** The first place with this place's number. */
        private int column(int place) {
            for (int i = 0; i < placeCount; i++) {
                if (judge.actual[places[i]] == judge.actual[place]) {
                    return i;
                }
            }
            return 0;
        }

        boolean isFlawed(State s) {
            if (arrayCount == 0) {
                return false;
            }
            for (int i = 0; i < parent.length; i++) {
                parent[i] = i;
                content[i] = NONE;
            }
            clashA = NONE;
            joinAlike(s);
            fill();
            if (clashA != NONE) {
                blameClash(s);
                return true;
            }
            for (int e = 0; e < question.equations; e++) {
                if ((s.equalTrue >> e & 1) == 0 && !canDiffer(e)) {
                    blameEquation(s, e);
                    return true;
                }
            }
            return false;
        }

        /** Rows that are one by an ITE, a STORE or an equation share their slots. */
        private void joinAlike(State s) {
            for (int i = 0; i < arrayCount; i++) {
                int t = arrays[i];
                if (terms.kind[t] == STORE) {
                    joinRows(i, row[terms.part(t, 0)], column(terms.part(t, 1)));
                } else if (terms.kind[t] == ITE) {
                    int chosen = judge.actual[terms.part(t, 0)] == 1 ? 1 : 2;
                    joinRows(i, row[terms.part(t, chosen)], NONE);
                }
            }
            for (int e = 0; e < question.equations; e++) {
                if ((s.equalTrue >> e & 1) == 1) {
                    joinRows(row[question.left[e]], row[question.right[e]], NONE);
                }
            }
        }

        private void joinRows(int a, int b, int except) {
            for (int c = 0; c < WIDTH; c++) {
                if (c != except) {
                    parent[find(b * WIDTH + c)] = find(a * WIDTH + c);
                }
            }
        }

        private int find(int slot) {
            int at = slot;
            for (int i = 0; i < parent.length && parent[at] != at; i++) {
                at = parent[at];
            }
            return at;
        }

        /** What is stored and what is selected stands in the slots. */
        private void fill() {
            for (int i = 0; i < question.usedCount; i++) {
                int t = question.used[i];
                if (terms.kind[t] == STORE) {
                    put(row[t], terms.part(t, 1), terms.part(t, 2));
                } else if (terms.kind[t] == SELECT) {
                    put(row[terms.part(t, 0)], terms.part(t, 1), t);
                }
            }
        }

        private void put(int array, int place, int t) {
            int slot = find(array * WIDTH + column(place));
            if (content[slot] == NONE) {
                content[slot] = t;
            } else if (judge.actual[content[slot]] != judge.actual[t]) {
                clashA = content[slot];
                clashB = t;
            }
        }

        private boolean canDiffer(int e) {
            int a = row[question.left[e]];
            int b = row[question.right[e]];
            if (find(a * WIDTH + ELSEWHERE) != find(b * WIDTH + ELSEWHERE)) {
                return true;
            }
            for (int c = 0; c < placeCount; c++) {
                int one = find(a * WIDTH + column(places[c]));
                int other = find(b * WIDTH + column(places[c]));
                if (one != other && !areSame(content[one], content[other])) {
                    return true;
                }
            }
            return false;
        }

        private boolean areSame(int t, int u) {
            return t != NONE && u != NONE && judge.actual[t] == judge.actual[u];
        }

        private void blameClash(State s) {
            if (!blameShape(s)) {
                judge.blameMerge(s, clashA, clashB);
            }
        }

        private void blameEquation(State s, int e) {
            if ((s.equalKnown >> e & 1) == 0) {
                judge.flaw = FLAW_EQUATION;
                judge.flawA = e;
            } else if (!blameShape(s)) {
                blameContents(s, e);
            }
        }

        /** Which slots are one hangs on conditions of ITEs and on how places lie: are all these settled? */
        private boolean blameShape(State s) {
            for (int i = 0; i < arrayCount; i++) {
                int t = arrays[i];
                if (terms.kind[t] == ITE && judge.sure[terms.part(t, 0)] == OPEN_VERDICT) {
                    judge.trace(s, terms.part(t, 0));
                    return true;
                }
            }
            for (int i = 0; i < placeCount; i++) {
                for (int j = 0; j < i; j++) {
                    if (!judge.isSettled(s, places[i], places[j])) {
                        judge.blamePair(s, places[i], places[j]);
                        return true;
                    }
                }
            }
            return false;
        }

        private void blameContents(State s, int e) {
            judge.flaw = FLAW_DEAD;
            int a = row[question.left[e]];
            int b = row[question.right[e]];
            for (int c = 0; c < placeCount; c++) {
                int one = find(a * WIDTH + column(places[c]));
                int other = find(b * WIDTH + column(places[c]));
                if (one != other && !judge.isSettled(s, content[one], content[other])) {
                    judge.blamePair(s, content[one], content[other]);
                    return;
                }
            }
        }
    }

    /** Goes through cases, each with numbers that are best in it, and splits one where these are no model. */
    private static final class Search {
        /** Above all bounds that there can be: a model with such a gap shows that there is no bound. */
        static final int ENDLESS = 200000000;
        /** What is aimed at without a bound; the terms' own numbers take a little of it away. */
        private static final int AIM = 400000000;
        private static final int MAX_STATES = 512;
        private static final int MAX_CASES = 100000000;

        private final Terms terms;
        private final Question question;
        private final Judge judge;
        private final Slots slots;
        private final State[] waiting = new State[MAX_STATES];
        private final State best = new State();
        private final State aim = new State();
        final int[] bestValue = new int[MAX_TERMS];
        private State current = new State();
        private int top = 0;
        private int mode = SEEK_ANY;
        private boolean found = false;
        long most = 0;
        long seenTrue = 0;
        long seenFalse = 0;

        Search(Terms terms, Question question) {
            this.terms = terms;
            this.question = question;
            this.judge = new Judge(terms, question);
            this.slots = new Slots(terms, question, judge);
        }

        /** Any model, the least one, or one in which one term is above another the most. */
        boolean seek(int what, int high, int low) {
            mode = what;
            found = false;
            top = 0;
            slots.gather();
            pushFirst();
            for (int i = 0; i < MAX_CASES && top > 0; i++) {
                takeNext();
                if (isPromising(high, low)) {
                    judge.evaluate(current);
                    if (!isFlawed()) {
                        keep(high, low);
                    }
                }
                if (judge.flaw != 0) {
                    split();
                }
                if (found && (mode == SEEK_ANY || mode == SEEK_MOST && most >= ENDLESS)) {
                    return true;
                }
            }
            return found;
        }

        private void pushFirst() {
            State s = fresh();
            s.reset();
            for (int e = 0; e < question.equations; e++) {
                if (question.left[e] == question.right[e]) {
                    s.equalKnown |= 1 << e;
                    s.equalTrue |= 1 << e;
                }
            }
            pushState();
        }

        private State fresh() {
            int at = Math.min(top, MAX_STATES - 1);
            State s = waiting[at];
            if (s == null) {
                s = new State();
                waiting[at] = s;
            }
            return s;
        }

        private void takeNext() {
            top--;
            State s = fresh();
            waiting[top] = current;
            current = s;
            judge.flaw = 0;
        }

        /** Whether a model that counts may be in this case; in search of the most it may have to be split. */
        private boolean isPromising(int high, int low) {
            if (mode == SEEK_LEAST && found && compareStates(current, best) >= 0) {
                return false;
            }
            if (!judge.assess(current)) {
                return false;
            }
            return mode != SEEK_MOST || isHigh(high, low);
        }

        private boolean isHigh(int high, int low) {
            int condition = judge.awaited(high, low);
            if (condition != NONE) {
                judge.evaluate(current);
                judge.trace(current, condition);
                return false;
            }
            int h = judge.base[high];
            int l = judge.base[low];
            int reach = Math.min(current.above[h * State.WIDTH + l], AIM);
            if (found && (long) reach + judge.offset[high] - judge.offset[low] <= most) {
                return false;
            }
            aim.copyFrom(current);
            if (!aim.bound(l, h, -reach, question.nodes)) {
                return false;
            }
            aim.choose(question.nodes);
            System.arraycopy(aim.x, 0, current.x, 0, State.WIDTH);
            return true;
        }

        private boolean isFlawed() {
            int root = judge.firstFailed();
            if (root != NONE) {
                judge.trace(current, root);
                return true;
            }
            return areFunctionsFlawed() || slots.isFlawed(current);
        }

        private boolean areFunctionsFlawed() {
            for (int i = 0; i < question.unitCount; i++) {
                int a = question.units[i];
                for (int j = 0; terms.kind[a] == APPLICATION && j < i; j++) {
                    int b = question.units[j];
                    if (terms.kind[b] == APPLICATION && terms.number[a] == terms.number[b]
                            && judge.actual[a] != judge.actual[b] && haveSameParts(a, b)) {
                        blameFunction(a, b);
                        return true;
                    }
                }
            }
            return false;
        }

        private boolean haveSameParts(int a, int b) {
            for (int i = 0; i < terms.parts[a]; i++) {
                if (judge.actual[terms.part(a, i)] != judge.actual[terms.part(b, i)]) {
                    return false;
                }
            }
            return true;
        }

        private void blameFunction(int a, int b) {
            for (int i = 0; i < terms.parts[a]; i++) {
                if (!judge.isSettled(current, terms.part(a, i), terms.part(b, i))) {
                    judge.blamePair(current, terms.part(a, i), terms.part(b, i));
                    return;
                }
            }
            if (terms.sort[a] == INT) {
                judge.blameMerge(current, a, b);
                return;
            }
            boolean openA = judge.sure[a] == OPEN_VERDICT;
            judge.flaw = openA || judge.sure[b] == OPEN_VERDICT ? FLAW_BOOL : FLAW_DEAD;
            judge.flawA = openA ? a : b;
        }

        /** The current case is a model: it is the best one so far. */
        private void keep(int high, int low) {
            if (mode == SEEK_MOST) {
                long gap = (long) judge.actual[high] - judge.actual[low];
                most = found ? Math.max(most, gap) : gap;
            }
            found = true;
            best.copyFrom(current);
            for (int i = 0; i < question.usedCount; i++) {
                int t = question.used[i];
                bestValue[t] = judge.actual[t];
                if (terms.sort[t] == BOOL && judge.actual[t] == 1) {
                    seenTrue |= 1L << t;
                } else if (terms.sort[t] == BOOL) {
                    seenFalse |= 1L << t;
                }
            }
        }

        /** The cases that the current one falls into by its flaw; the likeliest is looked at first. */
        private void split() {
            int bottom = top;
            int now = judge.flawA;
            switch (judge.flaw) {
                case FLAW_BOOL:
                    pushBool(question.bit[now], judge.actual[now]);
                    pushBool(question.bit[now], 1 - judge.actual[now]);
                    break;
                case FLAW_EQUATION:
                    pushEquation(now, 0);
                    pushEquation(now, 1);
                    break;
                case FLAW_PAIR:
                    splitPair();
                    break;
                case FLAW_MERGE:
                    pushPair(ALIKE);
                    break;
                default:
                    break;
            }
            if (mode == SEEK_LEAST) {
                sortWaiting(bottom);
            }
        }

        private void splitPair() {
            int accepts = judge.flawAccepts;
            int is = judge.relation(judge.flawA, judge.flawB);
            if (accepts != ALIKE && accepts != (BELOW | ABOVE)) {
                boolean holds = (accepts & is) != 0;
                pushPair(holds ? accepts : ANYHOW - accepts);
                pushPair(holds ? ANYHOW - accepts : accepts);
                return;
            }
            pushPair(is);
            pushPair(is == ABOVE ? BELOW : ABOVE);
            pushPair(is == ALIKE ? BELOW : ALIKE);
        }

        private void pushBool(int bit, int so) {
            State s = fresh();
            s.copyFrom(current);
            s.boolKnown |= 1 << bit;
            s.boolTrue |= so << bit;
            pushState();
        }

        private void pushEquation(int e, int so) {
            State s = fresh();
            s.copyFrom(current);
            s.equalKnown |= 1 << e;
            s.equalTrue |= so << e;
            pushState();
        }

        private void pushPair(int relation) {
            State s = fresh();
            s.copyFrom(current);
            int a = judge.base[judge.flawA];
            int b = judge.base[judge.flawB];
            int gap = judge.offset[judge.flawB] - judge.offset[judge.flawA];
            int strict = relation == BELOW || relation == ABOVE ? 1 : 0;
            boolean can = (relation & ABOVE) != 0 || s.bound(a, b, gap - strict, question.nodes);
            can = can && ((relation & BELOW) != 0 || s.bound(b, a, -gap - strict, question.nodes));
            if (can) {
                s.choose(question.nodes);
                pushState();
            }
        }

        /** No run needs so many cases at once that the row ends. */
        private void pushState() {
            top = Math.min(top + 1, MAX_STATES - 1);
        }

        private void sortWaiting(int bottom) {
            for (int i = bottom + 1; i < top; i++) {
                for (int j = i; j > bottom && compareStates(waiting[j], waiting[j - 1]) > 0; j--) {
                    State s = waiting[j];
                    waiting[j] = waiting[j - 1];
                    waiting[j - 1] = s;
                }
            }
        }

        /** Below 0 if the first one's numbers, Bools and equations come ahead of the second one's. */
        private int compareStates(State a, State b) {
            for (int i = 0; i < question.unitCount; i++) {
                int t = question.units[i];
                int which = terms.sort[t] == INT ? question.node[t] : question.bit[t];
                long one = terms.sort[t] == INT ? rank(a.x[which]) : a.boolTrue >> which & 1;
                long other = terms.sort[t] == INT ? rank(b.x[which]) : b.boolTrue >> which & 1;
                if (one != other) {
                    return one < other ? -1 : 1;
                }
            }
            for (int e = 0; e < question.equations; e++) {
                int one = a.equalTrue >> e & 1;
                int other = b.equalTrue >> e & 1;
                if (one != other) {
                    return one - other;
                }
            }
            return 0;
        }

        private static long rank(int v) {
            return v > 0 ? 2L * v - 1 : -2L * v;
        }
    }

    /** The draft, the steps, and what the ten rules allow. */
    private static final class Proof {
        private static final int ZERO = MAX_TERMS;

        private final Terms terms;
        private final Docket docket;
        private final int[] draft = new int[MAX_CLAUSE];
        private final int[] steps = new int[MAX_STEPS * MAX_CLAUSE];
        private final int[] stepSize = new int[MAX_STEPS];
        private final long[] distance = new long[MAX_TERMS + 1];
        private final boolean[] reached = new boolean[MAX_TERMS];
        private boolean shorter = false;
        int draftSize = 0;
        private int stepCount = 0;

        Proof(Terms terms, Docket docket) {
            this.terms = terms;
            this.docket = docket;
        }

        void dropAll() {
            draftSize = 0;
            stepCount = 0;
        }

        int add(int l) {
            if (l < 0 || !terms.has(l >> 1) || terms.sort[l >> 1] != BOOL) {
                return NONE;
            }
            if (inDraft(l)) {
                return draftSize;
            }
            if (draftSize >= MAX_CLAUSE) {
                return NONE;
            }
            int at = draftSize;
            for (int i = draftSize; i > 0 && draft[i - 1] > l; i--) {
                draft[i] = draft[i - 1];
                at = i - 1;
            }
            draft[at] = l;
            draftSize++;
            return draftSize;
        }

        private boolean inDraft(int l) {
            for (int i = 0; i < draftSize; i++) {
                if (draft[i] == l) {
                    return true;
                }
            }
            return false;
        }

        int tell(int k, int i) {
            if (k < -1 || k >= stepCount) {
                return NONE;
            }
            int length = k == -1 ? draftSize : stepSize[k];
            if (i == -1) {
                return length;
            }
            if (i < 0 || i >= length) {
                return NONE;
            }
            return k == -1 ? draft[i] : steps[k * MAX_CLAUSE + i];
        }

        int firstEmpty() {
            for (int k = 0; k < stepCount; k++) {
                if (stepSize[k] == 0) {
                    return k;
                }
            }
            return NONE;
        }

        int prove(int rule, int a, int b) {
            if (stepCount >= MAX_STEPS || !isAllowed(rule, a, b)) {
                return NONE;
            }
            System.arraycopy(draft, 0, steps, stepCount * MAX_CLAUSE, draftSize);
            stepSize[stepCount] = draftSize;
            stepCount++;
            draftSize = 0;
            return stepCount - 1;
        }

        private boolean isAllowed(int rule, int a, int b) {
            switch (rule) {
                case 0:
                    return docket.has(a) && inDraft(2 * docket.assertion[a]);
                case 1:
                    return isResolved(a, b);
                case 2:
                    return terms.has(a) && isConnected(a);
                case 3:
                    return isOrdered();
                case 4:
                    return terms.has(a) && terms.has(b) && isCongruent(a, b);
                case 5:
                    return isSelectOfStore(a) && isRead(a);
                case 6:
                    return isSelectOfStore(a) && terms.has(b) && isPassed(a, b);
                case 7:
                    return terms.has(a) && isChosen(a);
                case 8:
                    return terms.has(a) && terms.has(b) && isLinked(a, b);
                case 9:
                    return terms.has(a) && terms.has(b) && isSplit(a, b);
                default:
                    return false;
            }
        }

        private boolean isResolved(int a, int b) {
            if (a < 0 || a >= stepCount || b < 0 || b >= stepCount) {
                return false;
            }
            for (int i = 0; i < stepSize[a]; i++) {
                int l = steps[a * MAX_CLAUSE + i];
                if (inStep(b, l ^ 1) && hasOthers(a, l) && hasOthers(b, l ^ 1)) {
                    return true;
                }
            }
            return false;
        }

        private boolean inStep(int k, int l) {
            for (int i = 0; i < stepSize[k]; i++) {
                if (steps[k * MAX_CLAUSE + i] == l) {
                    return true;
                }
            }
            return false;
        }

        private boolean hasOthers(int k, int l) {
            for (int i = 0; i < stepSize[k]; i++) {
                int other = steps[k * MAX_CLAUSE + i];
                if (other != l && !inDraft(other)) {
                    return false;
                }
            }
            return true;
        }

        private boolean isConnected(int a) {
            int kind = terms.kind[a];
            boolean ofBools = terms.parts[a] > 0 && terms.sort[terms.part(a, 0)] == BOOL;
            boolean fits = kind >= TRUE && kind <= IMPLIES || kind == ITE && terms.sort[a] == BOOL
                    || (kind == EQUAL || kind == DISTINCT) && ofBools;
            if (!fits) {
                return false;
            }
            for (int row = 0; row < 1 << terms.parts[a]; row++) {
                if (isConsistent(a, row) && !isRowTrue(a, row)) {
                    return false;
                }
            }
            return true;
        }

        /** Whether one term that is a part twice is the same both times. */
        private boolean isConsistent(int a, int row) {
            for (int i = 0; i < terms.parts[a]; i++) {
                for (int j = 0; j < i; j++) {
                    if (terms.part(a, i) == terms.part(a, j) && (row >> i & 1) != (row >> j & 1)) {
                        return false;
                    }
                }
            }
            return true;
        }

        private boolean isRowTrue(int a, int row) {
            if (inDraft(2 * a + 1 - connect(a, row))) {
                return true;
            }
            for (int i = 0; i < terms.parts[a]; i++) {
                if (inDraft(2 * terms.part(a, i) + 1 - (row >> i & 1))) {
                    return true;
                }
            }
            return false;
        }

        /** What a is if its part i is bit i of the row. */
        private int connect(int a, int row) {
            int count = terms.parts[a];
            int all = (1 << count) - 1;
            int yes = Integer.bitCount(row);
            switch (terms.kind[a]) {
                case TRUE:
                    return 1;
                case FALSE:
                    return 0;
                case NOT:
                    return 1 - row;
                case AND:
                    return row == all ? 1 : 0;
                case OR:
                    return row != 0 ? 1 : 0;
                case XOR:
                    return yes & 1;
                case IMPLIES:
                    return row == all >> 1 ? 0 : 1;
                case EQUAL:
                    return row == 0 || row == all ? 1 : 0;
                case DISTINCT:
                    return count == 2 && yes == 1 ? 1 : 0;
                default:
                    return (row & 1) == 1 ? row >> 1 & 1 : row >> 2 & 1;
            }
        }

        /** The opposites of the draft's comparisons can't hold together: going round makes a way ever shorter. */
        private boolean isOrdered() {
            Arrays.fill(distance, 0);
            shorter = true;
            for (int round = 0; round <= MAX_TERMS + 1 && shorter; round++) {
                shorter = false;
                for (int i = 0; i < draftSize; i++) {
                    relaxLiteral(draft[i]);
                }
            }
            return shorter;
        }

        private void relaxLiteral(int l) {
            int t = l >> 1;
            int kind = terms.kind[t];
            if (kind < EQUAL || terms.sort[terms.part(t, 0)] != INT) {
                return;
            }
            boolean so = (l & 1) == 1;
            int says = so ? ACCEPTS[kind - EQUAL] : ANYHOW - ACCEPTS[kind - EQUAL];
            if (says == (BELOW | ABOVE) || !so && terms.parts[t] > 2) {
                return;
            }
            for (int i = 0; i + 1 < terms.parts[t]; i++) {
                int a = terms.part(t, i);
                int b = terms.part(t, i + 1);
                if ((says & ABOVE) == 0) {
                    relax(a, b, says == BELOW ? 1 : 0);
                }
                if ((says & BELOW) == 0) {
                    relax(b, a, says == ABOVE ? 1 : 0);
                }
            }
        }

        /** Term a is below term b by the gap at least. */
        private void relax(int a, int b, int gap) {
            long reach = distance[root(b)] + added(b) - added(a) - gap;
            if (reach < distance[root(a)]) {
                distance[root(a)] = reach;
                shorter = true;
            }
        }

        private int root(int t) {
            if (terms.kind[t] == CONSTANT) {
                return ZERO;
            }
            return terms.kind[t] == PLUS ? terms.part(t, 0) : t;
        }

        private int added(int t) {
            return terms.kind[t] == CONSTANT || terms.kind[t] == PLUS ? terms.number[t] : 0;
        }

        /** Whether the draft has the literal of an EQUAL of just these two (so = 1), or its opposite (0). */
        private boolean hasEqual(int a, int b, int so) {
            for (int i = 0; i < draftSize; i++) {
                int t = draft[i] >> 1;
                if ((draft[i] & 1) == 1 - so && terms.kind[t] == EQUAL && isPairOf(t, a, b)) {
                    return true;
                }
            }
            return false;
        }

        private boolean isPairOf(int t, int a, int b) {
            if (terms.parts[t] != 2) {
                return false;
            }
            int one = terms.part(t, 0);
            int other = terms.part(t, 1);
            return one == a && other == b || one == b && other == a;
        }

        private boolean isPartedOrOne(int a, int b) {
            return a == b || hasEqual(a, b, 0);
        }

        private boolean isCongruent(int a, int b) {
            int kind = terms.kind[a];
            boolean fits = kind == SELECT || kind == STORE
                    || kind == APPLICATION && terms.number[a] == terms.number[b];
            if (!fits || terms.kind[b] != kind || !hasEqual(a, b, 1)) {
                return false;
            }
            for (int i = 0; i < terms.parts[a]; i++) {
                if (!isPartedOrOne(terms.part(a, i), terms.part(b, i))) {
                    return false;
                }
            }
            return true;
        }

        private boolean isSelectOfStore(int a) {
            return terms.has(a) && terms.kind[a] == SELECT && terms.kind[terms.part(a, 0)] == STORE;
        }

        private boolean isRead(int a) {
            int store = terms.part(a, 0);
            return hasEqual(a, terms.part(store, 2), 1) && isPartedOrOne(terms.part(a, 1), terms.part(store, 1));
        }

        private boolean isPassed(int a, int b) {
            int store = terms.part(a, 0);
            return terms.kind[b] == SELECT && terms.part(b, 0) == terms.part(store, 0)
                    && terms.part(b, 1) == terms.part(a, 1) && hasEqual(a, b, 1)
                    && hasEqual(terms.part(a, 1), terms.part(store, 1), 1);
        }

        private boolean isChosen(int a) {
            if (terms.kind[a] != ITE || terms.sort[a] == BOOL) {
                return false;
            }
            int condition = terms.part(a, 0);
            return inDraft(2 * condition + 1) && hasEqual(a, terms.part(a, 1), 1)
                    || inDraft(2 * condition) && hasEqual(a, terms.part(a, 2), 1);
        }

        private boolean isLinked(int a, int b) {
            if (!hasEqual(a, b, 1)) {
                return false;
            }
            Arrays.fill(reached, false);
            reached[a] = true;
            for (int round = 0; round < draftSize; round++) {
                for (int i = 0; i < draftSize; i++) {
                    int t = draft[i] >> 1;
                    if ((draft[i] & 1) == 1 && terms.kind[t] == EQUAL && terms.parts[t] == 2) {
                        boolean linked = reached[terms.part(t, 0)] || reached[terms.part(t, 1)];
                        reached[terms.part(t, 0)] = linked;
                        reached[terms.part(t, 1)] = linked;
                    }
                }
            }
            return reached[b];
        }

        private boolean isSplit(int a, int b) {
            return terms.sort[a] == INT && terms.sort[b] == INT && hasEqual(a, b, 1)
                    && saysBelow(a, b) && saysBelow(b, a);
        }

        private boolean saysBelow(int a, int b) {
            for (int i = 0; i < draftSize; i++) {
                int t = draft[i] >> 1;
                if ((draft[i] & 1) == 0 && terms.parts[t] == 2) {
                    boolean less = terms.kind[t] == LESS && terms.part(t, 0) == a && terms.part(t, 1) == b;
                    boolean more = terms.kind[t] == MORE && terms.part(t, 0) == b && terms.part(t, 1) == a;
                    if (less || more) {
                        return true;
                    }
                }
            }
            return false;
        }
    }

    /** Writes terms as texts. */
    private static final class Pen {
        private static final int MAX_MOVES = 5000;

        private final Terms terms;
        private final Symbols symbols;
        private final int[] lengths = new int[MAX_TERMS];
        private final int[] open = new int[MAX_TERMS + 1];
        private final int[] nextPart = new int[MAX_TERMS + 1];
        final int[] bytes = new int[MAX_TAPE];
        int size = 0;

        Pen(Terms terms, Symbols symbols) {
            this.terms = terms;
            this.symbols = symbols;
        }

        /** How many bytes were written; NONE, and nothing, if these would be too many. */
        int draw(int k) {
            for (int t = 0; t <= k; t++) {
                lengths[t] = Math.min(lengthOf(t), MAX_TAPE + 1);
            }
            if (lengths[k] > MAX_TAPE) {
                return NONE;
            }
            size = 0;
            int depth = 1;
            open[0] = k;
            nextPart[0] = 0;
            for (int i = 0; i < MAX_MOVES && depth > 0; i++) {
                depth = move(depth);
            }
            return size;
        }

        private int lengthOf(int t) {
            int length = headLength(t);
            for (int i = 0; i < terms.parts[t]; i++) {
                length += 1 + lengths[terms.part(t, i)];
            }
            if (terms.kind[t] == PLUS) {
                length += 1 + digits(terms.number[t]);
            }
            return terms.parts[t] > 0 ? length + 2 : length;
        }

        private int headLength(int t) {
            switch (terms.kind[t]) {
                case CONSTANT:
                    return digits(terms.number[t]) + (terms.number[t] < 0 ? 4 : 0);
                case NAME:
                case APPLICATION:
                    return symbols.lengthOfName(terms.number[t]);
                default:
                    return WORD_LENGTH[wordOf(t)];
            }
        }

        private int wordOf(int t) {
            return terms.kind[t] == PLUS && terms.number[t] < 0 ? W_MINUS : KIND_WORD[terms.kind[t]];
        }

        private static int digits(int number) {
            int count = 1;
            int rest = Math.abs(number);
            for (int i = 0; i < MAX_DIGITS && rest > 9; i++) {
                rest /= 10;
                count++;
            }
            return count;
        }

        /** Opens the innermost term, goes on to its next part, or closes it; how many are open then. */
        private int move(int depth) {
            int t = open[depth - 1];
            int i = nextPart[depth - 1];
            if (i == 0) {
                drawHead(t);
            }
            if (i < terms.parts[t] && depth <= MAX_TERMS) {
                put(' ');
                nextPart[depth - 1]++;
                open[depth] = terms.part(t, i);
                nextPart[depth] = 0;
                return depth + 1;
            }
            if (terms.kind[t] == PLUS) {
                put(' ');
                drawNumber(Math.abs(terms.number[t]));
            }
            if (terms.parts[t] > 0) {
                put(')');
            }
            return depth - 1;
        }

        private void drawHead(int t) {
            if (terms.parts[t] > 0) {
                put('(');
            }
            switch (terms.kind[t]) {
                case CONSTANT:
                    drawConstant(terms.number[t]);
                    break;
                case NAME:
                case APPLICATION:
                    for (int i = 0; i < symbols.lengthOfName(terms.number[t]); i++) {
                        put(symbols.nameByte(terms.number[t], i));
                    }
                    break;
                default:
                    drawWord(wordOf(t));
                    break;
            }
        }

        private void drawConstant(int number) {
            if (number >= 0) {
                drawNumber(number);
                return;
            }
            put('(');
            put('-');
            put(' ');
            drawNumber(-number);
            put(')');
        }

        private void drawWord(int w) {
            for (int i = 0; i < WORD_LENGTH[w]; i++) {
                put(WORDS.charAt(WORD_AT[w] + i));
            }
        }

        private void drawNumber(int number) {
            int unit = 1;
            for (int i = 1; i < digits(number); i++) {
                unit *= 10;
            }
            for (int i = 0; i < MAX_DIGITS && unit > 0; i++) {
                put('0' + number / unit % 10);
                unit /= 10;
            }
        }

        private void put(int c) {
            if (size < MAX_TAPE) {
                bytes[size] = c;
                size++;
            }
        }
    }
}
