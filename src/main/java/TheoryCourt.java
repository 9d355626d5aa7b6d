import java.util.Arrays;

/**
 * Formulas over whole numbers, functions and rows without end: commands are read to shared terms,
 * assertions are judged together, and clauses are proved by ten rules.
 */
public final class TheoryCourt {
    public static final int NONE = -1;
    public static final int UNSAT = -2000000000;
    public static final long FAR = 1000000000000000L;

    private static final int FEED = 20;
    private static final int MAX_TAPE = 2000;
    private static final int MAX_TOKENS = 400;
    private static final int MAX_OPEN = 20;
    private static final int MAX_PARTS = 8;
    private static final int MAX_NAME = 16;
    private static final int MAX_DIGITS = 6;
    private static final int MAX_SYMBOLS = 24;
    private static final int MAX_TAKES = 3;
    private static final int MAX_TERMS = 64;
    private static final int MAX_ASSERTIONS = 14;
    private static final int MAX_LEVELS = 8;
    private static final int MAX_INT_UNITS = 6;
    private static final int MAX_BOOL_UNITS = 4;
    private static final int MAX_ARRAYS = 4;
    private static final int MAX_PLACES = 3;
    private static final int MAX_EQUATIONS = 3;
    private static final int MAX_COMPARISONS = 12;
    private static final int MAX_INT_ITES = 3;
    private static final int MAX_READ = 4000;
    private static final int MAX_NUMBER = 999999;
    /** No core needs as many: an assertion stays, or its block is halved a few times until it goes. */
    private static final int MAX_TRIES = 1000;
    private static final int MAX_CLAUSE = 8;
    private static final int MAX_STEPS = 60;

    private static final int INT = 0;
    private static final int BOOL = 1;
    private static final int ARRAY = 2;

    private static final int CONSTANT = 0;
    private static final int NAME = 1;
    private static final int APPLICATION = 2;
    private static final int SELECT = 3;
    private static final int ITE = 4;
    private static final int PLUS = 5;
    private static final int STORE = 6;
    private static final int TRUE = 7;
    private static final int FALSE = 8;
    private static final int NOT = 9;
    private static final int AND = 10;
    private static final int OR = 11;
    private static final int XOR = 12;
    private static final int IMPLIES = 13;
    private static final int EQUAL = 14;
    private static final int DISTINCT = 15;
    private static final int LESS = 16;
    private static final int MORE = 18;

    private static final int SYNTAX = -3;
    private static final int FAULT_UNKNOWN = 1;
    private static final int FAULT_TWICE = 2;
    private static final int FAULT_SORT = 3;
    private static final int FAULT_PARTS = 4;
    private static final int FAULT_SUM = 5;
    private static final int FAULT_NUMBER = 6;
    private static final int FAULT_ROOM = 7;
    private static final int FAULT_POP = 8;

    private static final String MARKS = "_.!-+<>=";
    private static final String WORDS = "declare-const declare-fun define-fun assert term push pop let ite select store and or not xor true false distinct Int Bool Array = => < <= > >= + -";
    private static final int[] WORD_AT = {0, 14, 26, 37, 44, 49, 54, 58, 62, 66, 73, 79, 83, 86, 90, 94,
        99, 105, 114, 118, 123, 129, 131, 134, 136, 139, 141, 144, 146};
    private static final int[] WORD_LENGTH = {13, 11, 10, 6, 4, 4, 3, 3, 3, 6, 5, 3, 2, 3, 3, 4, 5, 8, 3,
        4, 5, 1, 2, 1, 2, 1, 2, 1, 1};
    private static final int W_DECLARE_CONST = 0;
    private static final int W_DECLARE_FUN = 1;
    private static final int W_DEFINE_FUN = 2;
    private static final int W_ASSERT = 3;
    private static final int W_TERM = 4;
    private static final int W_PUSH = 5;
    private static final int W_POP = 6;
    private static final int W_LET = 7;
    private static final int W_TRUE = 15;
    private static final int W_FALSE = 16;
    private static final int W_INT = 18;
    private static final int W_BOOL = 19;
    private static final int W_ARRAY = 20;
    private static final int W_MINUS = 28;

    /** By word: the kind it makes (NONE: no OP), its least and most parts, and the sorts that it takes. */
    private static final int[] OP_KIND = {-1, -1, -1, -1, -1, -1, -1, -1, 4, 3, 6, 10, 11, 9, 12, -1, -1,
        15, -1, -1, -1, 14, 13, 16, 17, 18, 19, 5, 5};
    private static final int[] OP_LEAST = {0, 0, 0, 0, 0, 0, 0, 0, 3, 2, 3, 1, 1, 1, 2, 0, 0,
        2, 0, 0, 0, 2, 2, 2, 2, 2, 2, 2, 1};
    private static final int[] OP_MOST = {0, 0, 0, 0, 0, 0, 0, 0, 3, 2, 3, 8, 8, 1, 8, 0, 0,
        8, 0, 0, 0, 8, 8, 8, 8, 8, 8, 8, 2};
    private static final int[] KIND_WORD = {-1, -1, -1, 9, 8, 27, 10, 15, 16, 13, 11, 12, 14, 22, 21, 17,
        23, 24, 25, 26};

    /** A token is its type and, below that, its number: a numeral's, a word's, a symbol's, a slot's. */
    private static final int TYPE_SHIFT = 20;
    private static final int OPERAND = (1 << TYPE_SHIFT) - 1;
    private static final int T_OPEN = 1;
    private static final int T_CLOSE = 2;
    private static final int T_NUMERAL = 3;
    private static final int T_NAME = 4;
    private static final int T_WORD = 5;
    private static final int T_SLOT = 6;
    private static final int T_SYMBOL = 7;
    private static final int OPEN = T_OPEN << TYPE_SHIFT;
    private static final int CLOSE = T_CLOSE << TYPE_SHIFT;

    /** How two numbers can lie: below, alike, above. What the kinds 14 to 19 accept of these. */
    private static final int BELOW = 1;
    private static final int ALIKE = 2;
    private static final int ABOVE = 4;
    private static final int ANYHOW = 7;
    private static final int[] ACCEPTS = {ALIKE, BELOW | ABOVE, BELOW, BELOW | ALIKE, ABOVE, ALIKE | ABOVE};

    private static final int OPEN_VERDICT = 2;

    private static final int FLAW_DEAD = 1;
    private static final int FLAW_SAME = 2;
    private static final int FLAW_EQUATION = 3;
    private static final int FLAW_PAIR = 4;
    private static final int FLAW_MERGE = 5;
    private static final int FLAW_OPEN = 6;
    private static final int FLAW_CONDITION = 7;
    private static final int FLAW_TIGHT = 8;

    private static final int SEEK_ANY = 0;
    private static final int SEEK_LEAST = 1;
    private static final int SEEK_MOST = 2;

    private final Text text;
    private final Symbols symbols;
    private final Terms terms;
    private final Reader reader;
    private final Question question;
    private final Search search;
    private final Proof proof;
    private final Pen pen;
    private final int[] modelValue = new int[MAX_TERMS];
    private final int[] sorts = new int[MAX_TAKES];
    private final int[] parameters = new int[MAX_TAKES];
    private int taken = 0;
    private int cursor = 0;
    private int failedAt = NONE;
    private int satisfiable = NONE;
    private boolean modelReady = false;
    private int coreMask = NONE;
    private long neverTrue = 0;
    private long neverFalse = 0;

    public TheoryCourt() {
        text = new Text();
        symbols = new Symbols();
        terms = new Terms();
        reader = new Reader(text, symbols, terms);
        question = new Question(terms);
        search = new Search(terms, question);
        proof = new Proof(terms);
        pen = new Pen(terms, symbols);
    }

    public int feed(int a, int b, int c, int d, int e) {
        if (text.size + FEED > MAX_TAPE) {
            return NONE;
        }
        text.put(a);
        text.put(b);
        text.put(c);
        text.put(d);
        text.put(e);
        return text.size;
    }

    public int end(int n) {
        if (n < 0 || n > FEED || text.size < FEED) {
            return NONE;
        }
        text.size -= FEED - n;
        return text.size;
    }

    public int run() {
        int answer = SYNTAX;
        text.scan();
        if (text.isCommand()) {
            answer = execute(text.operandOf(1));
            failedAt = reader.faultPlace();
            if (answer >= 0) {
                forget(text.operandOf(1));
            }
        } else {
            failedAt = text.bad;
        }
        text.size = 0;
        return answer;
    }

    /** Carries a command out; one with a fault leaves all as it was. */
    private int execute(int word) {
        int termsBefore = terms.size;
        reader.begin(word == W_DEFINE_FUN);
        int answer = NONE;
        switch (word) {
            case W_DECLARE_CONST:
            case W_DECLARE_FUN:
                answer = declare(word);
                break;
            case W_DEFINE_FUN:
                int gives = beginDefinition();
                int body = cursor;
                answer = endDefinition(reader.readTerm(body, text.tokens - 1), gives, body);
                terms.size = termsBefore;
                break;
            case W_ASSERT:
                answer = assertTerm(reader.readTerm(2, text.tokens - 1));
                break;
            case W_TERM:
                answer = reader.readTerm(2, text.tokens - 1);
                break;
            case W_PUSH:
                answer = pushLevel();
                break;
            default:
                answer = popLevel();
                break;
        }
        if (reader.fault != 0) {
            terms.size = termsBefore;
            return -100 - reader.fault;
        }
        return answer;
    }

    private int pushLevel() {
        if (!terms.pushLevel(symbols)) {
            reader.fail(FAULT_ROOM, 1);
        }
        return terms.levels;
    }

    private int popLevel() {
        if (!terms.popLevel(symbols)) {
            reader.fail(FAULT_POP, 1);
        }
        return terms.levels;
    }

    private int assertTerm(int t) {
        if (reader.fault != 0 || !terms.has(t)) {
            return NONE;
        }
        if (terms.sort[t] != BOOL) {
            reader.fail(FAULT_SORT, 2);
            return NONE;
        }
        int i = terms.assertTerm(t);
        if (i == NONE) {
            reader.fail(FAULT_ROOM, 1);
        }
        return i;
    }

    private int declare(int word) {
        lookAtName();
        if (word == W_DECLARE_CONST) {
            cursor = 3;
            return addSymbol(readSort());
        }
        cursor = 4;
        for (int i = 0; i < MAX_TOKENS && text.typeOf(cursor) != T_CLOSE; i++) {
            int at = cursor;
            int sort = readSort();
            if (taken < MAX_TAKES && sort != INT) {
                reader.fail(FAULT_SORT, at);
            }
            addTaken(sort, at);
        }
        cursor++;
        int at = cursor;
        int gives = readSort();
        if (taken > 0 && gives == ARRAY) {
            reader.fail(FAULT_SORT, at);
        }
        return addSymbol(gives);
    }

    /** All of a define-fun ahead of its term, where the cursor is then; the sort that it gives. */
    private int beginDefinition() {
        lookAtName();
        cursor = 4;
        for (int i = 0; i < MAX_TOKENS && text.typeOf(cursor) == T_OPEN; i++) {
            int at = cursor;
            cursor += 2;
            addTaken(readSort(), at);
            cursor++;
        }
        cursor++;
        int gives = readSort();
        for (int i = 1; i < taken; i++) {
            lookForTwin(i);
        }
        for (int i = 0; i < taken && reader.fault == 0; i++) {
            reader.addParameter(parameters[i], i, sorts[i]);
        }
        return gives;
    }

    private int endDefinition(int t, int gives, int body) {
        if (reader.fault == 0 && terms.has(t) && terms.sort[t] != gives) {
            reader.fail(FAULT_SORT, body);
        }
        int s = addSymbol(gives);
        if (s != NONE) {
            symbols.define(s, text.code, body, text.tokens - 1);
        }
        return s;
    }

    /** One more sort that the symbol takes, or one too many; a parameter's NAME is behind its parenthesis. */
    private void addTaken(int sort, int at) {
        if (taken >= MAX_TAKES) {
            reader.fail(FAULT_PARTS, at);
        } else {
            sorts[taken] = sort;
            parameters[taken] = at + 1;
            taken++;
        }
    }

    private void lookForTwin(int i) {
        for (int j = 0; j < i; j++) {
            if (text.sameName(parameters[j], parameters[i])) {
                reader.fail(FAULT_TWICE, parameters[i]);
            }
        }
    }

    private void lookAtName() {
        taken = 0;
        if (symbols.find(text.tape, text.at[2], text.length[2]) != NONE) {
            reader.fail(FAULT_TWICE, 2);
        }
    }

    private int readSort() {
        int first = cursor;
        boolean isArray = text.typeOf(first) == T_OPEN;
        cursor += isArray ? 5 : 1;
        if (isArray) {
            return ARRAY;
        }
        return text.operandOf(first) == W_INT ? INT : BOOL;
    }

    /** The NAME of all three commands is their third token. */
    private int addSymbol(int gives) {
        if (symbols.size >= MAX_SYMBOLS) {
            reader.fail(FAULT_ROOM, 1);
        }
        if (reader.fault != 0) {
            return NONE;
        }
        int s = symbols.add(text.tape, text.at[2], text.length[2], gives);
        for (int i = 0; i < taken; i++) {
            symbols.addTaken(s, sorts[i]);
        }
        return s;
    }

    /** What was found out goes where the command may have changed it. */
    private void forget(int word) {
        if (word == W_ASSERT || word == W_TERM || word == W_POP) {
            modelReady = false;
        }
        if (word == W_ASSERT || word == W_POP) {
            satisfiable = NONE;
            coreMask = NONE;
            neverTrue = 0;
            neverFalse = 0;
            search.seenTrue = 0;
            search.seenFalse = 0;
        }
        if (word == W_POP) {
            proof.dropAll();
        }
    }

    public int place() {
        return failedAt;
    }

    public int count(int what) {
        switch (what) {
            case 0:
                return symbols.size;
            case 1:
                return terms.size;
            case 2:
                return terms.assertions;
            case 3:
                return terms.levels;
            default:
                return what >= 4 && what <= 9 ? terms.tally(what - 4) : NONE;
        }
    }

    public int term(int k, int what) {
        if (!terms.has(k)) {
            return NONE;
        }
        switch (what) {
            case 0:
                return terms.kind[k];
            case 1:
                return terms.sort[k];
            case 2:
                return terms.isNumbered(k) ? terms.number[k] : NONE;
            case 3:
                return terms.parts[k];
            default:
                return what >= 4 && what - 4 < terms.parts[k] ? terms.part(k, what - 4) : NONE;
        }
    }

    public int asserted(int i) {
        return terms.isAssertion(i) ? terms.assertion[i] : NONE;
    }

    public int check() {
        if (satisfiable == NONE) {
            satisfiable = canAll((1 << terms.assertions) - 1) ? 1 : 0;
        }
        return satisfiable;
    }

    /** Whether the assertions of the mask can all be true. */
    private boolean canAll(int mask) {
        demandAll(mask);
        question.gather(false, NONE, NONE);
        return search.seek(SEEK_ANY, NONE, NONE);
    }

    private void demandAll(int mask) {
        question.begin();
        for (int i = 0; i < terms.assertions; i++) {
            if ((mask >> i & 1) == 1) {
                question.demand(terms.assertion[i], 1);
            }
        }
    }

    public int value(int k) {
        if (!terms.has(k) || terms.sort[k] == ARRAY) {
            return NONE;
        }
        if (check() == 0) {
            return UNSAT;
        }
        findModel();
        return modelValue[k];
    }

    /** The caller has looked that there is a model. */
    private void findModel() {
        if (!modelReady) {
            demandAll((1 << terms.assertions) - 1);
            question.gather(true, NONE, NONE);
            modelReady = search.seek(SEEK_LEAST, NONE, NONE);
            System.arraycopy(search.bestValue, 0, modelValue, 0, MAX_TERMS);
        }
    }

    public int core(int i) {
        if (!terms.isAssertion(i) || check() == 1) {
            return NONE;
        }
        findCore();
        return coreMask >> i & 1;
    }

    /**
     * Tries to leave out several at once, for a search that finds no model is dear: if those that are left
     * cannot all be true without them, they cannot with some of them either, so each would go by itself, too.
     */
    private void findCore() {
        if (coreMask != NONE) {
            return;
        }
        int mask = (1 << terms.assertions) - 1;
        int behind = terms.assertions;
        int size = terms.assertions / 2;
        for (int i = 0; i < MAX_TRIES && behind > 0; i++) {
            size = Math.max(1, Math.min(size, behind));
            int without = mask & ~((1 << size) - 1 << behind - size);
            if (!canAll(without)) {
                mask = without;
                behind -= size;
                size *= 2;
            } else if (size == 1) {
                behind--;
            } else {
                size /= 2;
            }
        }
        coreMask = mask;
    }

    public int holds(int k) {
        if (!terms.has(k) || terms.sort[k] != BOOL) {
            return NONE;
        }
        if (check() == 0) {
            return UNSAT;
        }
        boolean canHold = canBe(k, 1);
        boolean canFail = canBe(k, 0);
        if (canHold && canFail) {
            return 2;
        }
        return canHold ? 1 : 0;
    }

    /** Whether there is a model in which Bool term k is so; what any search has seen is used again. */
    private boolean canBe(int k, int wanted) {
        long bit = 1L << k;
        long seen = wanted == 1 ? search.seenTrue : search.seenFalse;
        long never = wanted == 1 ? neverTrue : neverFalse;
        if ((seen & bit) != 0 || (never & bit) != 0) {
            return (seen & bit) != 0;
        }
        demandAll((1 << terms.assertions) - 1);
        question.demand(k, wanted);
        question.gather(false, NONE, NONE);
        if (search.seek(SEEK_ANY, NONE, NONE)) {
            return true;
        }
        if (wanted == 1) {
            neverTrue |= bit;
        } else {
            neverFalse |= bit;
        }
        return false;
    }

    public long apart(int i, int j) {
        if (!terms.has(i) || !terms.has(j) || terms.sort[i] != INT || terms.sort[j] != INT) {
            return -FAR;
        }
        if (check() == 0) {
            return UNSAT;
        }
        demandAll((1 << terms.assertions) - 1);
        question.gather(false, i, j);
        if (!search.seek(SEEK_MOST, i, j)) {
            return UNSAT;
        }
        return search.most >= Search.ENDLESS ? FAR : search.most;
    }

    public int write(int k) {
        return terms.has(k) ? pen.draw(k) : NONE;
    }

    public int out(int i) {
        return i >= 0 && i < pen.size ? pen.bytes[i] : NONE;
    }

    public int symbol(int s, int i) {
        return symbols.has(s) ? symbols.tell(s, i) : NONE;
    }

    public int literal(int l) {
        return proof.add(l);
    }

    public int step(int rule, int a, int b) {
        return proof.prove(rule, a, b);
    }

    public int clear() {
        int had = proof.draftSize;
        proof.draftSize = 0;
        return had;
    }

    public int clause(int k, int i) {
        return proof.tell(k, i);
    }

    public int refuted() {
        return proof.firstEmpty();
    }

    public int sure() {
        if (check() == 0) {
            findCore();
            return canAll(coreMask) ? 0 : 1;
        }
        findModel();
        for (int i = 0; i < terms.assertions; i++) {
            if (modelValue[terms.assertion[i]] != 1) {
                return 0;
            }
        }
        return 1;
    }

    /** The tape, its tokens, and whether these make a command. */
    private static final class Text {
        private static final int IN_LIST = -1;
        private static final int IN_LET = -2;

        final byte[] tape = new byte[MAX_TAPE];
        /** Tokens, and behind the last one a 0 where none begins: at the end, or at what is none. */
        final int[] code = new int[MAX_TOKENS + 1];
        final int[] at = new int[MAX_TOKENS + 1];
        final int[] length = new int[MAX_TOKENS + 1];
        /** By open term: how many terms it has, or where in a let it is. */
        private final int[] nest = new int[MAX_OPEN + 1];
        int size = 0;
        int tokens = 0;
        int bad = NONE;
        private int taken = 0;
        private int ahead = 0;

        void put(int word) {
            for (int shift = 24; shift >= 0; shift -= 8) {
                if (size < MAX_TAPE) {
                    tape[size] = (byte) (word >> shift);
                    size++;
                }
            }
        }

        /** Cuts the tape into tokens, up to the first place where none can be. */
        void scan() {
            int pos = 0;
            int open = 0;
            tokens = 0;
            for (int i = 0; i <= MAX_TOKENS; i++) {
                pos = skipBlanks(pos);
                int made = pos < size && i < MAX_TOKENS ? scanToken(pos) : 0;
                open += made == OPEN ? 1 : made == CLOSE ? -1 : 0;
                at[i] = pos;
                code[i] = open > MAX_OPEN ? 0 : made;
                if (code[i] == 0) {
                    return;
                }
                length[i] = made == OPEN || made == CLOSE ? 1 : lengthOfRun(pos);
                pos += length[i];
                tokens++;
            }
        }

        private int skipBlanks(int from) {
            int pos = from;
            for (int i = from; i < size && isBlank(tape[i]); i++) {
                pos = i + 1;
            }
            return pos;
        }

        /** The token that begins at a place; 0 when there is none, or it is too long. */
        private int scanToken(int pos) {
            int first = tape[pos];
            if (first == '(' || first == ')') {
                return first == '(' ? OPEN : CLOSE;
            }
            int run = lengthOfRun(pos);
            return isDigit(first) ? scanNumeral(pos, run) : scanSymbol(pos, run);
        }

        private int lengthOfRun(int pos) {
            int run = 0;
            for (int i = pos; i < size && isSymbolByte(tape[i]); i++) {
                run++;
            }
            return run;
        }

        private int scanNumeral(int pos, int run) {
            if (run > MAX_DIGITS || run > 1 && tape[pos] == '0') {
                return 0;
            }
            int number = 0;
            for (int i = pos; i < pos + run; i++) {
                if (!isDigit(tape[i])) {
                    return 0;
                }
                number = number * 10 + tape[i] - '0';
            }
            return (T_NUMERAL << TYPE_SHIFT) + number;
        }

        private int scanSymbol(int pos, int run) {
            if (run == 0 || run > MAX_NAME) {
                return 0;
            }
            for (int w = 0; w < WORD_AT.length; w++) {
                if (WORD_LENGTH[w] == run && isWord(w, pos)) {
                    return word(w);
                }
            }
            return T_NAME << TYPE_SHIFT;
        }

        private boolean isWord(int w, int pos) {
            for (int i = 0; i < WORD_LENGTH[w]; i++) {
                if (WORDS.charAt(WORD_AT[w] + i) != tape[pos + i]) {
                    return false;
                }
            }
            return true;
        }

        private static boolean isBlank(int c) {
            return c == 9 || c == 10 || c == 13 || c == 32;
        }

        private static boolean isDigit(int c) {
            return c >= '0' && c <= '9';
        }

        /** Bytes above 127 are below 0 here, and so in no token. */
        private static boolean isSymbolByte(int c) {
            return c >= 'a' && c <= 'z' || c >= 'A' && c <= 'Z' || c >= '0' && c <= '9'
                    || c > 0 && MARKS.indexOf((char) c) >= 0;
        }

        boolean isCommand() {
            taken = 0;
            bad = NONE;
            want(OPEN);
            readRest(next());
            want(CLOSE);
            if (bad == NONE && (taken < tokens || at[tokens] < size)) {
                bad = at[taken];
            }
            return bad == NONE;
        }

        private void readRest(int word) {
            switch (word - (T_WORD << TYPE_SHIFT)) {
                case W_DECLARE_CONST:
                    wantName();
                    readSort(next());
                    break;
                case W_DECLARE_FUN:
                    wantName();
                    want(OPEN);
                    readSorts();
                    readSort(next());
                    break;
                case W_DEFINE_FUN:
                    wantName();
                    want(OPEN);
                    readParameters();
                    readSort(next());
                    readTerm();
                    break;
                case W_ASSERT:
                case W_TERM:
                    readTerm();
                    break;
                case W_PUSH:
                case W_POP:
                    break;
                default:
                    refuse();
                    break;
            }
        }

        private void readSorts() {
            int token = next();
            for (int i = 0; i < MAX_TOKENS && bad == NONE && token != CLOSE; i++) {
                readSort(token);
                token = next();
            }
        }

        private void readParameters() {
            int token = next();
            for (int i = 0; i < MAX_TOKENS && bad == NONE && token == OPEN; i++) {
                wantName();
                readSort(next());
                want(CLOSE);
                token = next();
            }
            if (token != CLOSE) {
                refuse();
            }
        }

        private void readSort(int token) {
            if (token == OPEN) {
                want(word(W_ARRAY));
                want(word(W_INT));
                want(word(W_INT));
                want(CLOSE);
            } else if (token != word(W_INT) && token != word(W_BOOL)) {
                refuse();
            }
        }

        /** Terms within terms are kept on a row of open ones, so that no call stands in itself. */
        private void readTerm() {
            int depth = 0;
            int token = next();
            for (int i = 0; i < MAX_TOKENS && bad == NONE; i++) {
                if (token == OPEN && depth < MAX_OPEN) {
                    depth++;
                    openTerm(depth);
                    token = next();
                } else if (isLeaf(token)) {
                    depth = closeTerms(depth);
                    if (depth == 0) {
                        return;
                    }
                    token = ahead;
                } else {
                    refuse();
                }
            }
        }

        private void openTerm(int depth) {
            int head = next();
            if (head == word(W_LET)) {
                nest[depth] = IN_LIST;
                want(OPEN);
                want(OPEN);
                wantName();
            } else if (head >> TYPE_SHIFT == T_NAME || isOperation(head)) {
                nest[depth] = 0;
            } else {
                refuse();
            }
        }

        /** A term has ended: all that ends with it does; how many stay open, what comes then is ahead. */
        private int closeTerms(int from) {
            int depth = from;
            for (int i = 0; i <= MAX_OPEN && depth > 0 && bad == NONE; i++) {
                ahead = next();
                if (nest[depth] >= 0 && ahead != CLOSE) {
                    nest[depth]++;
                    if (nest[depth] >= MAX_PARTS) {
                        refuse();
                    }
                    return depth;
                }
                if (ahead != CLOSE) {
                    refuse();
                } else if (nest[depth] == IN_LIST) {
                    endBinding(depth);
                    return depth;
                }
                depth--;
            }
            return depth;
        }

        private void endBinding(int depth) {
            int token = next();
            if (token == OPEN) {
                wantName();
            } else if (token == CLOSE) {
                nest[depth] = IN_LET;
            } else {
                refuse();
            }
            ahead = next();
        }

        private static boolean isLeaf(int token) {
            int type = token >> TYPE_SHIFT;
            return type == T_NUMERAL || type == T_NAME || token == word(W_TRUE) || token == word(W_FALSE);
        }

        private static boolean isOperation(int token) {
            int number = token & OPERAND;
            return token >> TYPE_SHIFT == T_WORD && number < OP_KIND.length && OP_KIND[number] != NONE;
        }

        private static int word(int number) {
            return (T_WORD << TYPE_SHIFT) + number;
        }

        private void want(int wanted) {
            if (next() != wanted) {
                refuse();
            }
        }

        private void wantName() {
            if (next() >> TYPE_SHIFT != T_NAME) {
                refuse();
            }
        }

        /** The token that was taken last cannot stand there, unless a fault was found before. */
        private void refuse() {
            if (bad == NONE) {
                bad = taken > 0 ? at[taken - 1] : 0;
            }
        }

        private int next() {
            if (bad != NONE) {
                return 0;
            }
            if (taken >= tokens) {
                bad = at[tokens];
                return 0;
            }
            taken++;
            return code[taken - 1];
        }

        int typeOf(int token) {
            return token >= 0 && token < tokens ? code[token] >> TYPE_SHIFT : 0;
        }

        int operandOf(int token) {
            return token >= 0 && token < tokens ? code[token] & OPERAND : 0;
        }

        int placeOf(int token) {
            return token >= 0 && token < tokens ? at[token] : NONE;
        }

        boolean sameName(int one, int other) {
            if (one < 0 || one >= tokens || other < 0 || other >= tokens || length[one] != length[other]) {
                return false;
            }
            for (int i = 0; i < length[one]; i++) {
                if (tape[at[one] + i] != tape[at[other] + i]) {
                    return false;
                }
            }
            return true;
        }
    }

    /** What is declared and defined; the terms of define-funs are kept as tokens, with their names found. */
    private static final class Symbols {
        private final byte[] names = new byte[MAX_SYMBOLS * MAX_NAME];
        private final int[] nameLength = new int[MAX_SYMBOLS];
        private final int[] takeSorts = new int[MAX_SYMBOLS * MAX_TAKES];
        private final int[][] bodies = new int[MAX_SYMBOLS][];
        final int[] takes = new int[MAX_SYMBOLS];
        final int[] gives = new int[MAX_SYMBOLS];
        int size = 0;

        boolean has(int s) {
            return s >= 0 && s < size;
        }

        /** The symbol whose NAME stands on the tape at a place; NONE. */
        int find(byte[] tape, int from, int count) {
            for (int s = 0; s < size; s++) {
                if (nameLength[s] == count && isNamed(s, tape, from)) {
                    return s;
                }
            }
            return NONE;
        }

        private boolean isNamed(int s, byte[] tape, int from) {
            for (int i = 0; i < nameLength[s]; i++) {
                if (names[s * MAX_NAME + i] != tape[from + i]) {
                    return false;
                }
            }
            return true;
        }

        /** The caller has looked that there is room, and that the NAME is new. */
        int add(byte[] tape, int from, int count, int sort) {
            int s = size;
            if (s >= MAX_SYMBOLS || from < 0 || count < 0 || count > MAX_NAME || from + count > MAX_TAPE) {
                return NONE;
            }
            System.arraycopy(tape, from, names, s * MAX_NAME, count);
            nameLength[s] = count;
            takes[s] = 0;
            gives[s] = sort;
            bodies[s] = null;
            size++;
            return s;
        }

        void addTaken(int s, int sort) {
            if (has(s) && takes[s] < MAX_TAKES) {
                takeSorts[s * MAX_TAKES + takes[s]] = sort;
                takes[s]++;
            }
        }

        void define(int s, int[] code, int from, int to) {
            if (has(s) && from >= 0 && from <= to && to <= code.length) {
                bodies[s] = Arrays.copyOfRange(code, from, to);
            }
        }

        int sortTaken(int s, int i) {
            return takeSorts[s * MAX_TAKES + i];
        }

        boolean isDefined(int s) {
            return bodies[s] != null;
        }

        int bodyLength(int s) {
            int[] body = bodies[s];
            return body == null ? 0 : body.length;
        }

        int bodyToken(int s, int i) {
            int[] body = bodies[s];
            return body == null || i < 0 || i >= body.length ? 0 : body[i];
        }

        int lengthOfName(int s) {
            return nameLength[s];
        }

        int nameByte(int s, int i) {
            return names[s * MAX_NAME + i];
        }

        int tell(int s, int i) {
            switch (i) {
                case -1:
                    return nameLength[s];
                case -2:
                    return takes[s];
                case -3:
                    return gives[s];
                case -4:
                    return isDefined(s) ? 1 : 0;
                default:
                    return i >= 0 && i < nameLength[s] ? nameByte(s, i) : NONE;
            }
        }
    }

    /**
     * The shared terms, whose parts have lower numbers than they; which of them are asserted; and the levels
     * by which all that comes and goes.
     */
    private static final class Terms {
        private static final int TALLIES = 7;
        private static final int INT_UNITS = 0;
        private static final int BOOL_UNITS = 1;
        private static final int ARRAYS = 2;
        private static final int PLACES = 3;
        private static final int EQUATIONS = 4;
        private static final int COMPARISONS = 5;
        private static final int INT_ITES = 6;
        private static final int[] ROOM = {MAX_INT_UNITS, MAX_BOOL_UNITS, MAX_ARRAYS, MAX_PLACES,
            MAX_EQUATIONS, MAX_COMPARISONS, MAX_INT_ITES};

        final int[] kind = new int[MAX_TERMS];
        final int[] number = new int[MAX_TERMS];
        final int[] sort = new int[MAX_TERMS];
        final int[] parts = new int[MAX_TERMS];
        private final int[] partRow = new int[MAX_TERMS * MAX_PARTS];
        /** A row of tallies for each number of terms, so that terms go without counting anew. */
        private final int[] tallies = new int[(MAX_TERMS + 1) * TALLIES];
        int size = 0;
        final int[] assertion = new int[MAX_ASSERTIONS];
        int assertions = 0;
        private final int[] symbolsBefore = new int[MAX_LEVELS];
        private final int[] termsBefore = new int[MAX_LEVELS];
        private final int[] assertionsBefore = new int[MAX_LEVELS];
        int levels = 0;

        boolean has(int t) {
            return t >= 0 && t < size;
        }

        boolean isAssertion(int i) {
            return i >= 0 && i < assertions;
        }

        /** The assertion's number; NONE when there is no room. */
        int assertTerm(int t) {
            if (assertions >= MAX_ASSERTIONS) {
                return NONE;
            }
            assertion[assertions] = t;
            assertions++;
            return assertions - 1;
        }

        boolean pushLevel(Symbols symbols) {
            if (levels >= MAX_LEVELS) {
                return false;
            }
            symbolsBefore[levels] = symbols.size;
            termsBefore[levels] = size;
            assertionsBefore[levels] = assertions;
            levels++;
            return true;
        }

        boolean popLevel(Symbols symbols) {
            if (levels <= 0) {
                return false;
            }
            levels--;
            symbols.size = symbolsBefore[levels];
            size = termsBefore[levels];
            assertions = assertionsBefore[levels];
            return true;
        }

        int part(int t, int i) {
            return partRow[t * MAX_PARTS + i];
        }

        boolean isNumbered(int t) {
            return kind[t] <= APPLICATION || kind[t] == PLUS;
        }

        int tally(int which) {
            return tallies[size * TALLIES + which];
        }

        boolean isOverfull() {
            for (int i = 0; i < TALLIES; i++) {
                if (tally(i) > ROOM[i]) {
                    return true;
                }
            }
            return false;
        }

        /** The term that is so, made if there is none; NONE when it would be the 65th. */
        int make(int newKind, int newNumber, int newSort, int[] row, int from, int count) {
            for (int t = 0; t < size; t++) {
                if (kind[t] == newKind && number[t] == newNumber && parts[t] == count && hasParts(t, row, from)) {
                    return t;
                }
            }
            if (size >= MAX_TERMS || count > MAX_PARTS) {
                return NONE;
            }
            int t = size;
            kind[t] = newKind;
            number[t] = newNumber;
            sort[t] = newSort;
            parts[t] = count;
            for (int i = 0; i < count; i++) {
                partRow[t * MAX_PARTS + i] = row[from + i];
            }
            addTallies(t);
            size++;
            return t;
        }

        private boolean hasParts(int t, int[] row, int from) {
            for (int i = 0; i < parts[t]; i++) {
                if (part(t, i) != row[from + i]) {
                    return false;
                }
            }
            return true;
        }

        private void addTallies(int t) {
            int row = (t + 1) * TALLIES;
            System.arraycopy(tallies, t * TALLIES, tallies, row, TALLIES);
            if (isUnit(t)) {
                tallies[row + (sort[t] == INT ? INT_UNITS : BOOL_UNITS)]++;
            }
            if (sort[t] == ARRAY) {
                tallies[row + ARRAYS]++;
            }
            if (hasPlace(t) && isNewPlace(t)) {
                tallies[row + PLACES]++;
            }
            if (kind[t] == ITE && sort[t] == INT) {
                tallies[row + INT_ITES]++;
            }
            if (kind[t] >= EQUAL) {
                int side = sort[part(t, 0)];
                if (side == ARRAY) {
                    tallies[row + EQUATIONS] += pairs(t);
                } else if (side == INT) {
                    tallies[row + COMPARISONS] += pairs(t);
                }
            }
        }

        boolean isUnit(int t) {
            return sort[t] != ARRAY && kind[t] >= NAME && kind[t] <= SELECT;
        }

        /** How many pairs EQUAL to AT LEAST tell of. */
        int pairs(int t) {
            return kind[t] == DISTINCT ? parts[t] * (parts[t] - 1) / 2 : parts[t] - 1;
        }

        boolean hasPlace(int t) {
            return kind[t] == SELECT || kind[t] == STORE;
        }

        /** No term before this SELECT or STORE has its place. */
        private boolean isNewPlace(int t) {
            int place = partRow[t * MAX_PARTS + 1];
            for (int i = 0; i < t; i++) {
                if ((kind[i] == SELECT || kind[i] == STORE) && partRow[i * MAX_PARTS + 1] == place) {
                    return false;
                }
            }
            return true;
        }

        /** The last part that part i is told together with: all behind it in DISTINCT, else the next one. */
        int lastPartner(int t, int i) {
            return kind[t] == DISTINCT || i + 1 >= parts[t] ? parts[t] - 1 : i + 1;
        }
    }

    /**
     * Makes terms of tokens. What is open is kept on a row of frames, for terms of define-funs stand in
     * one another deeper than calls may; and what is to be made is asked for, and made by the loop itself.
     */
    private static final class Reader {
        private static final int MAX_VALUES = 4600;
        private static final int MAX_FRAMES = 600;
        private static final int MAX_MOVES = 20000;
        private static final int COMMAND = -1;
        private static final int F_OPERATION = 0;
        private static final int F_APPLICATION = 1;
        private static final int F_BINDING = 2;
        private static final int F_LET_BODY = 3;
        private static final int F_DEFINITION = 4;
        /** A frame's fields: its kind, its word or symbol (or source), how many values were there, its token. */
        private static final int FRAME = 5;
        private static final int KIND = 0;
        private static final int HEAD = 1;
        private static final int FLOOR = 2;
        private static final int TOKEN = 3;
        private static final int BASE = 4;

        private final Text text;
        private final Symbols symbols;
        private final Terms terms;
        private final int[] values = new int[MAX_VALUES];
        /** By value: the NAME token that it is seen by; below NONE: will be seen by; NONE. */
        private final int[] names = new int[MAX_VALUES];
        private final int[] frames = new int[MAX_FRAMES * FRAME];
        private int frameCount = 0;
        private int top = 0;
        private int source = COMMAND;
        private int pc = 0;
        private int base = 0;
        private int read = 0;
        private int callToken = 0;
        private boolean defining = false;
        private int askedKind = NONE;
        private int askedNumber = 0;
        private int askedSort = 0;
        private int askedParts = 0;
        int fault = 0;
        private int faultToken = 0;

        Reader(Text text, Symbols symbols, Terms terms) {
            this.text = text;
            this.symbols = symbols;
            this.terms = terms;
        }

        void begin(boolean forDefinition) {
            top = 0;
            frameCount = 0;
            source = COMMAND;
            base = 0;
            read = 0;
            defining = forDefinition;
            askedKind = NONE;
            fault = 0;
        }

        void fail(int code, int token) {
            if (fault == 0) {
                fault = code;
                faultToken = source == COMMAND ? token : callToken;
            }
        }

        /** Where the fault is: without room it is the word behind the command's parenthesis. */
        int faultPlace() {
            if (fault == 0) {
                return NONE;
            }
            return text.placeOf(fault == FAULT_ROOM ? 1 : faultToken);
        }

        /** A parameter is a term that no symbol has: its number lies behind all symbols'. */
        void addParameter(int token, int index, int sort) {
            ask(NAME, MAX_SYMBOLS + index, sort, 0);
            makeAsked();
            if (fault == 0) {
                names[top - 1] = token;
            }
        }

        /** The term of the command's tokens from the first to before the last; NONE at a fault. */
        int readTerm(int first, int last) {
            pc = first;
            for (int i = 0; i < MAX_MOVES && fault == 0; i++) {
                int limit = source == COMMAND ? last : symbols.bodyLength(source);
                if (pc < limit) {
                    take(tokenAt(pc));
                } else if (source == COMMAND) {
                    break;
                } else {
                    leaveDefinition();
                }
                if (askedKind != NONE) {
                    makeAsked();
                }
            }
            return fault == 0 && top > 0 ? values[top - 1] : NONE;
        }

        private int tokenAt(int i) {
            if (source != COMMAND) {
                return symbols.bodyToken(source, i);
            }
            return i >= 0 && i < text.tokens ? text.code[i] : 0;
        }

        private void take(int token) {
            int operand = token & OPERAND;
            switch (token >> TYPE_SHIFT) {
                case T_OPEN:
                    openTerm();
                    break;
                case T_CLOSE:
                    closeTerm();
                    break;
                case T_NUMERAL:
                    ask(CONSTANT, operand, INT, 0);
                    pc++;
                    break;
                case T_WORD:
                    ask(operand == W_TRUE ? TRUE : FALSE, 0, BOOL, 0);
                    pc++;
                    break;
                case T_SLOT:
                    push(base + operand < top ? values[base + operand] : NONE);
                    pc++;
                    break;
                case T_SYMBOL:
                    takeSymbol(operand);
                    break;
                default:
                    findName(pc);
                    break;
            }
        }

        /** A NAME becomes a slot or a symbol, in its token, too: so a define-fun's term keeps what it meant. */
        private void findName(int token) {
            for (int i = top - 1; i >= 0; i--) {
                if (names[i] >= 0 && text.sameName(names[i], token)) {
                    text.code[token] = (T_SLOT << TYPE_SHIFT) + i;
                    return;
                }
            }
            findSymbol(token);
        }

        private void findSymbol(int token) {
            int s = symbols.find(text.tape, text.at[token], text.length[token]);
            if (s == NONE) {
                fail(FAULT_UNKNOWN, token);
            } else {
                text.code[token] = (T_SYMBOL << TYPE_SHIFT) + s;
            }
        }

        private void takeSymbol(int s) {
            int token = pc;
            pc++;
            if (symbols.takes[s] > 0) {
                fail(FAULT_PARTS, token);
            } else if (symbols.isDefined(s)) {
                enterDefinition(s, top, token);
            } else {
                ask(NAME, s, symbols.gives[s], 0);
            }
        }

        private void openTerm() {
            int head = pc + 1;
            if (tokenAt(head) >> TYPE_SHIFT == T_NAME) {
                findSymbol(head);
            }
            int token = tokenAt(head);
            int operand = token & OPERAND;
            if (fault != 0) {
                return;
            }
            if (token >> TYPE_SHIFT == T_SYMBOL) {
                pushFrame(F_APPLICATION, operand, top, head);
                pc += 2;
            } else if (operand != W_LET) {
                pushFrame(F_OPERATION, operand, top, head);
                pc += 2;
            } else {
                pushFrame(F_BINDING, head, top, head);
                pc += 3;
                beginBinding();
            }
        }

        /** At the ( before a NAME of let; names within define-funs' terms were looked at when these came. */
        private void beginBinding() {
            int name = pc + 1;
            int frame = (frameCount - 1) * FRAME;
            pc += 2;
            if (source != COMMAND || frame < 0) {
                return;
            }
            for (int i = frames[frame + FLOOR]; i < top; i++) {
                if (text.sameName(-2 - names[i], name)) {
                    fail(FAULT_TWICE, name);
                }
            }
            frames[frame + HEAD] = name;
        }

        private void closeTerm() {
            int frame = (frameCount - 1) * FRAME;
            pc++;
            if (frame < 0 || top <= 0) {
                fault = FAULT_ROOM;
                return;
            }
            switch (frames[frame + KIND]) {
                case F_OPERATION:
                    operate(frame);
                    break;
                case F_APPLICATION:
                    apply(frame);
                    break;
                case F_BINDING:
                    endBinding(frame);
                    break;
                default:
                    endFrame(values[top - 1]);
                    break;
            }
        }

        private void endBinding(int frame) {
            if (source == COMMAND) {
                names[top - 1] = -2 - frames[frame + HEAD];
            }
            if (tokenAt(pc) == OPEN) {
                beginBinding();
                return;
            }
            pc++;
            frames[frame + KIND] = F_LET_BODY;
            for (int i = frames[frame + FLOOR]; source == COMMAND && i < top; i++) {
                names[i] = -2 - names[i];
            }
        }

        /** The parts stay behind the values until what they are parts of is made. */
        private void operate(int frame) {
            int op = frames[frame + HEAD];
            int floor = frames[frame + FLOOR];
            int token = frames[frame + TOKEN];
            int count = top - floor;
            frameCount--;
            top = floor;
            if (count < OP_LEAST[op] || count > OP_MOST[op]) {
                fail(FAULT_PARTS, token);
            } else if (!sortsFit(OP_KIND[op], floor, count)) {
                fail(FAULT_SORT, token);
            } else if (OP_KIND[op] == PLUS) {
                sum(op, count, token);
            } else {
                ask(OP_KIND[op], 0, sortMade(OP_KIND[op], floor), count);
            }
        }

        private int sortMade(int kind, int floor) {
            switch (kind) {
                case ITE:
                    return terms.sort[values[floor + 1]];
                case SELECT:
                    return INT;
                case STORE:
                    return ARRAY;
                default:
                    return BOOL;
            }
        }

        private boolean sortsFit(int kind, int floor, int count) {
            int first = terms.sort[values[floor]];
            switch (kind) {
                case ITE:
                    return first == BOOL && areAll(terms.sort[values[floor + 1]], floor + 1, 2);
                case SELECT:
                case STORE:
                    return first == ARRAY && areAll(INT, floor + 1, count - 1);
                case EQUAL:
                case DISTINCT:
                    return areAll(first, floor, count);
                default:
                    return areAll(kind >= NOT && kind <= IMPLIES ? BOOL : INT, floor, count);
            }
        }

        private boolean areAll(int sort, int from, int count) {
            for (int i = from; i < from + count; i++) {
                if (terms.sort[values[i]] != sort) {
                    return false;
                }
            }
            return true;
        }

        /** What + and - make: a CONSTANT, a PLUS, or the one term that is no CONSTANT itself. */
        private void sum(int op, int count, int token) {
            int total = 0;
            int rest = NONE;
            for (int i = 0; i < count; i++) {
                int t = values[top + i];
                boolean taken = op == W_MINUS && (count == 1 || i == 1);
                if (terms.kind[t] == CONSTANT) {
                    total += taken ? -terms.number[t] : terms.number[t];
                } else if (rest == NONE && !taken) {
                    rest = t;
                } else {
                    fail(FAULT_SUM, token);
                }
            }
            if (rest != NONE && terms.kind[rest] == PLUS) {
                total += terms.number[rest];
                rest = terms.part(rest, 0);
            }
            if (total < -MAX_NUMBER || total > MAX_NUMBER) {
                fail(FAULT_NUMBER, token);
            } else if (rest == NONE) {
                ask(CONSTANT, total, INT, 0);
            } else if (total == 0) {
                push(rest);
            } else {
                values[top] = rest;
                ask(PLUS, total, INT, 1);
            }
        }

        private void apply(int frame) {
            int s = frames[frame + HEAD];
            int floor = frames[frame + FLOOR];
            int token = frames[frame + TOKEN];
            int count = top - floor;
            frameCount--;
            if (count != symbols.takes[s]) {
                fail(FAULT_PARTS, token);
                return;
            }
            for (int i = 0; i < count; i++) {
                if (terms.sort[values[floor + i]] != symbols.sortTaken(s, i)) {
                    fail(FAULT_SORT, token);
                }
            }
            if (fault == 0 && symbols.isDefined(s)) {
                enterDefinition(s, floor, token);
            } else if (fault == 0) {
                top = floor;
                ask(APPLICATION, s, symbols.gives[s], count);
            }
        }

        /** The values from floor on stand for the parameters; all tokens count before one is read. */
        private void enterDefinition(int s, int floor, int token) {
            read += symbols.bodyLength(s);
            if (read > MAX_READ) {
                fault = FAULT_ROOM;
                return;
            }
            if (source == COMMAND) {
                callToken = token;
            }
            pushFrame(F_DEFINITION, source, floor, pc);
            source = s;
            base = floor;
            pc = 0;
        }

        private void leaveDefinition() {
            int frame = (frameCount - 1) * FRAME;
            if (frame < 0 || top <= 0) {
                fault = FAULT_ROOM;
                return;
            }
            source = frames[frame + HEAD];
            pc = frames[frame + TOKEN];
            base = frames[frame + BASE];
            endFrame(values[top - 1]);
        }

        private void pushFrame(int kind, int head, int floor, int token) {
            if (frameCount >= MAX_FRAMES) {
                fault = FAULT_ROOM;
                return;
            }
            int frame = frameCount * FRAME;
            frames[frame + KIND] = kind;
            frames[frame + HEAD] = head;
            frames[frame + FLOOR] = floor;
            frames[frame + TOKEN] = token;
            frames[frame + BASE] = base;
            frameCount++;
        }

        private void endFrame(int result) {
            frameCount--;
            top = frames[frameCount * FRAME + FLOOR];
            push(result);
        }

        private void push(int t) {
            if (t < 0 || top >= MAX_VALUES - MAX_PARTS) {
                fault = fault == 0 ? FAULT_ROOM : fault;
            } else {
                values[top] = t;
                names[top] = NONE;
                top++;
            }
        }

        /** A term is to be made; its parts are the values from top on. */
        private void ask(int kind, int number, int sort, int count) {
            askedKind = kind;
            askedNumber = number;
            askedSort = sort;
            askedParts = count;
        }

        private void makeAsked() {
            int kind = askedKind;
            askedKind = NONE;
            if (fault == 0) {
                push(terms.make(kind, askedNumber, askedSort, values, top, askedParts));
            }
            if (fault == 0 && !defining && terms.isOverfull()) {
                fault = FAULT_ROOM;
            }
        }
    }

    /**
     * One case of a search: how far units lie apart at most, which settings are left, and what must be so.
     * A setting tells of all Bool units and equations what they are, one bit for each; all that are left are
     * held together, as bits of two words, so that a case need not be split for them.
     */
    private static final class State {
        static final int FREE = 2147483647;
        static final int WIDTH = MAX_INT_UNITS + 1;
        static final int WORDS = 2;

        /** At i * WIDTH + j: how much number i is above number j at most; number 0 is 0 itself. */
        final int[] above = new int[WIDTH * WIDTH];
        final int[] x = new int[WIDTH];
        final long[] left = new long[WORDS];
        /** The least setting that is left. */
        int setting = 0;
        /** By term: it must be true, it must be false; by pair: its two must not be alike. */
        long mustHold = 0;
        long mustFail = 0;
        long unlike = 0;

        void reset() {
            Arrays.fill(above, FREE);
            for (int i = 0; i < WIDTH; i++) {
                above[i * WIDTH + i] = 0;
            }
            Arrays.fill(x, 0);
            unlike = 0;
        }

        void copyFrom(State other) {
            System.arraycopy(other.above, 0, above, 0, WIDTH * WIDTH);
            System.arraycopy(other.x, 0, x, 0, WIDTH);
            System.arraycopy(other.left, 0, left, 0, WORDS);
            setting = other.setting;
            mustHold = other.mustHold;
            mustFail = other.mustFail;
            unlike = other.unlike;
        }

        boolean isEmpty() {
            return (left[0] | left[1]) == 0;
        }

        /** Some settings that are left have a 1 at a position, and others a 0. */
        boolean isDivided(int position) {
            long ones = 0;
            long zeros = 0;
            for (int w = 0; w < WORDS; w++) {
                ones |= left[w] & Question.settingsWith(position, w);
                zeros |= left[w] & ~Question.settingsWith(position, w);
            }
            return ones != 0 && zeros != 0;
        }

        void leaveThoseWith(int position, int so) {
            for (int w = 0; w < WORDS; w++) {
                long ones = Question.settingsWith(position, w);
                left[w] &= so == 1 ? ones : ~ones;
            }
        }

        void leaveThoseAlike(int position, int other) {
            for (int w = 0; w < WORDS; w++) {
                left[w] &= ~(Question.settingsWith(position, w) ^ Question.settingsWith(other, w));
            }
        }

        void takeLeastSetting() {
            int word = left[0] == 0 && left[1] != 0 ? 1 : 0;
            long below = (left[word] & -left[word]) - 1;
            setting = left[word] == 0 ? 0 : 64 * word + Long.bitCount(below);
        }

        /** Number i is at most c above number j from now on; whether that can be. */
        boolean bound(int i, int j, int c, int nodes) {
            if (above[i * WIDTH + j] <= c) {
                return true;
            }
            int back = above[j * WIDTH + i];
            if (back != FREE && back + c < 0) {
                return false;
            }
            for (int p = 0; p < nodes; p++) {
                int before = above[p * WIDTH + i];
                for (int q = 0; before != FREE && q < nodes; q++) {
                    int behind = above[j * WIDTH + q];
                    if (behind != FREE && before + c + behind < above[p * WIDTH + q]) {
                        above[p * WIDTH + q] = before + c + behind;
                    }
                }
            }
            return true;
        }

        /** Number i lies to number j and a gap more as a relation tells; whether that can be. */
        boolean relate(int i, int j, int gap, int relation, int nodes) {
            int strict = (relation & ALIKE) == 0 ? 1 : 0;
            boolean can = (relation & ABOVE) != 0 || bound(i, j, gap - strict, nodes);
            return can && ((relation & BELOW) != 0 || bound(j, i, -gap - strict, nodes));
        }
    }

    /** What a search is about: the terms that matter, their units, equations and pairs, and what must be so. */
    private static final class Question {
        /** Pairs that are found to matter get a bit each, while there are some. */
        private static final int MAX_PAIRS = 64;
        /** A word holds the settings of so many bits; by bit, those of them that have it. */
        static final int WORD_WIDTH = 6;
        private static final long[] ONES = {0xAAAAAAAAAAAAAAAAL, 0xCCCCCCCCCCCCCCCCL, 0xF0F0F0F0F0F0F0F0L,
            0xFF00FF00FF00FF00L, 0xFFFF0000FFFF0000L, 0xFFFFFFFF00000000L};

        private final Terms terms;
        private final boolean[] matters = new boolean[MAX_TERMS];
        final int[] used = new int[MAX_TERMS];
        /** By unit: which node it is, of the Ints, or which bit, of the Bools. */
        final int[] node = new int[MAX_TERMS];
        /** By term of the kinds 14 to 19: its first equation, or its first one of the told pairs. */
        final int[] first = new int[MAX_TERMS];
        final int[] left = new int[MAX_EQUATIONS];
        final int[] right = new int[MAX_EQUATIONS];
        final int[] units = new int[MAX_INT_UNITS + MAX_BOOL_UNITS];
        final int[] told = new int[MAX_COMPARISONS];
        final int[] pairA = new int[MAX_PAIRS];
        final int[] pairB = new int[MAX_PAIRS];
        long mustHold = 0;
        long mustFail = 0;
        int usedCount = 0;
        int nodes = 1;
        int bits = 0;
        int equations = 0;
        int unitCount = 0;
        int toldCount = 0;
        int pairCount = 0;

        Question(Terms terms) {
            this.terms = terms;
        }

        void begin() {
            mustHold = 0;
            mustFail = 0;
        }

        void demand(int t, int so) {
            if (so == 1) {
                mustHold |= 1L << t;
            } else {
                mustFail |= 1L << t;
            }
        }

        /** All terms, or those below what is demanded and below two more, are what matters. */
        void gather(boolean all, int one, int other) {
            for (int t = 0; t < MAX_TERMS; t++) {
                matters[t] = all || ((mustHold | mustFail) >> t & 1) == 1;
            }
            if (one >= 0 && other >= 0) {
                matters[one] = true;
                matters[other] = true;
            }
            for (int t = terms.size - 1; t >= 0; t--) {
                for (int i = 0; matters[t] && i < terms.parts[t]; i++) {
                    matters[terms.part(t, i)] = true;
                }
            }
            usedCount = 0;
            nodes = 1;
            bits = 0;
            equations = 0;
            unitCount = 0;
            toldCount = 0;
            pairCount = 0;
            for (int t = 0; t < terms.size; t++) {
                if (matters[t]) {
                    enlist(t);
                }
            }
        }

        private void enlist(int t) {
            used[usedCount] = t;
            usedCount++;
            if (terms.isUnit(t) && unitCount < units.length) {
                units[unitCount] = t;
                unitCount++;
                if (terms.sort[t] == INT) {
                    node[t] = nodes;
                    nodes++;
                } else {
                    node[t] = bits;
                    bits++;
                }
            }
            if (terms.kind[t] >= EQUAL) {
                int side = terms.sort[terms.part(t, 0)];
                first[t] = side == ARRAY ? equations : toldCount;
                for (int i = 0; side != BOOL && i < terms.parts[t]; i++) {
                    enlistPairs(t, i, side);
                }
            }
        }

        private void enlistPairs(int t, int i, int side) {
            int a = terms.part(t, i);
            for (int j = i + 1; j <= terms.lastPartner(t, i); j++) {
                int b = terms.part(t, j);
                if (side == ARRAY && equations < left.length) {
                    left[equations] = a;
                    right[equations] = b;
                    equations++;
                } else if (side == INT && toldCount < told.length) {
                    told[toldCount] = pairOf(a, b);
                    toldCount++;
                }
            }
        }

        /** The number of the pair of two Int terms, a new one if it has none; NONE when there is no room. */
        int pairOf(int a, int b) {
            for (int p = 0; p < pairCount; p++) {
                if (pairA[p] == a && pairB[p] == b || pairA[p] == b && pairB[p] == a) {
                    return p;
                }
            }
            if (pairCount >= MAX_PAIRS) {
                return NONE;
            }
            pairA[pairCount] = a;
            pairB[pairCount] = b;
            pairCount++;
            return pairCount - 1;
        }

        /** The first unit has the highest bit, the last equation the lowest: the least setting comes first. */
        int positionOf(int unit) {
            return width() - 1 - node[unit];
        }

        int positionOfEquation(int e) {
            return equations - 1 - e;
        }

        /** How many bits a setting has. */
        int width() {
            return bits + equations;
        }

        /** The settings of a word that there are. */
        long allSettings(int word) {
            if (word > 0) {
                return width() > WORD_WIDTH ? -1L : 0L;
            }
            return width() >= WORD_WIDTH ? -1L : (1L << (1 << width())) - 1;
        }

        /** The settings of a word that have a 1 at a position. */
        static long settingsWith(int position, int word) {
            if (position >= 0 && position < WORD_WIDTH) {
                return ONES[position];
            }
            return word > 0 ? -1L : 0L;
        }
    }

    /** Looks at one case: what is sure in all of it, what is so for its chosen numbers, and what is wrong. */
    private static final class Judge {
        private final Terms terms;
        private final Question question;
        /** By Bool term and word: the settings in which it may be true, and false. */
        private final long[] yes = new long[MAX_TERMS * State.WORDS];
        private final long[] no = new long[MAX_TERMS * State.WORDS];
        /** By Bool term: what it is in all settings that are left. */
        final int[] certain = new int[MAX_TERMS];
        final int[] actual = new int[MAX_TERMS];
        /** By Int term: its unit's node, NONE while an ITE's condition is open, and what is added. */
        final int[] base = new int[MAX_TERMS];
        final int[] offset = new int[MAX_TERMS];
        /** The settings that there are, and how many words hold them. */
        private final long[] all = new long[State.WORDS];
        private int words = 1;
        /** Terms that are what they must be, whatever comes. */
        private long settled = 0;
        private boolean dead = false;
        boolean moved = false;
        int flaw = 0;
        int flawA = 0;
        int flawB = 0;
        int flawAccepts = 0;

        Judge(Terms terms, Question question) {
            this.terms = terms;
            this.question = question;
        }

        /** Must be called when the question has been gathered. */
        void gather() {
            words = question.width() > Question.WORD_WIDTH ? 2 : 1;
            for (int w = 0; w < State.WORDS; w++) {
                all[w] = question.allSettings(w);
            }
        }

        /** Finds what is sure, and which settings are left; whether there are some. */
        boolean assess(State s) {
            long before = s.left[0];
            long beforeThen = s.left[1];
            settled = 0;
            for (int i = 0; i < question.usedCount; i++) {
                int t = question.used[i];
                if (terms.sort[t] == INT) {
                    locate(t);
                } else if (terms.sort[t] == BOOL) {
                    weigh(s, t);
                    heed(s, t);
                }
            }
            moved = before != s.left[0] || beforeThen != s.left[1];
            return !s.isEmpty();
        }

        /** Finds in which settings a Bool term may be true, and false. */
        private void weigh(State s, int t) {
            int kind = terms.kind[t];
            int side = terms.parts[t] > 0 ? terms.sort[terms.part(t, 0)] : NONE;
            int verdict = kind == TRUE ? 1 : 0;
            if (kind >= EQUAL && side == INT) {
                verdict = compareAll(s, t, false);
            }
            for (int w = 0; w < words; w++) {
                int at = t * State.WORDS + w;
                if (kind <= APPLICATION) {
                    yes[at] = all[w] & Question.settingsWith(question.positionOf(t), w);
                    no[at] = all[w] & ~yes[at];
                } else if (kind == ITE) {
                    weighChoice(t, w);
                } else if (side == BOOL) {
                    weighParts(t, w);
                } else if (side == ARRAY) {
                    yes[at] = all[w] & equateAll(t, w);
                    no[at] = all[w] & ~yes[at];
                } else {
                    yes[at] = verdict == 0 ? 0 : all[w];
                    no[at] = verdict == 1 ? 0 : all[w];
                }
            }
        }

        private void weighChoice(int t, int w) {
            int condition = terms.part(t, 0) * State.WORDS + w;
            int one = terms.part(t, 1) * State.WORDS + w;
            int other = terms.part(t, 2) * State.WORDS + w;
            yes[t * State.WORDS + w] = yes[condition] & yes[one] | no[condition] & yes[other];
            no[t * State.WORDS + w] = yes[condition] & no[one] | no[condition] & no[other];
        }

        private void weighParts(int t, int w) {
            int kind = terms.kind[t];
            int count = terms.parts[t];
            long allYes = all[w];
            long allNo = all[w];
            long someYes = 0;
            long someNo = 0;
            long odd = 0;
            long even = all[w];
            for (int i = 0; i < count; i++) {
                int at = terms.part(t, i) * State.WORDS + w;
                boolean turned = kind == NOT || kind == IMPLIES && i < count - 1;
                long y = turned ? no[at] : yes[at];
                long n = turned ? yes[at] : no[at];
                long oddBefore = odd;
                odd = odd & n | even & y;
                even = even & n | oddBefore & y;
                allYes &= y;
                allNo &= n;
                someYes |= y;
                someNo |= n;
            }
            int at = t * State.WORDS + w;
            switch (kind) {
                case XOR:
                    yes[at] = odd;
                    no[at] = even;
                    break;
                case DISTINCT:
                    yes[at] = count == 2 ? odd : 0;
                    no[at] = count == 2 ? even : all[w];
                    break;
                case EQUAL:
                    yes[at] = allYes | allNo;
                    no[at] = someYes & someNo;
                    break;
                case OR:
                case IMPLIES:
                    yes[at] = someYes;
                    no[at] = allNo;
                    break;
                default:
                    yes[at] = allYes;
                    no[at] = someNo;
                    break;
            }
        }

        /** What a term is in all settings that are left is certain, and so is what it must be. */
        private void heed(State s, int t) {
            long mayHold = 0;
            long mayFail = 0;
            for (int w = 0; w < words; w++) {
                mayHold |= s.left[w] & yes[t * State.WORDS + w];
                mayFail |= s.left[w] & no[t * State.WORDS + w];
            }
            certain[t] = mayFail == 0 ? 1 : mayHold == 0 ? 0 : OPEN_VERDICT;
            if (certain[t] != OPEN_VERDICT) {
                settled |= 1L << t;
            }
            if (((s.mustHold | s.mustFail) >> t & 1) == 1) {
                obey(s, t);
            }
        }

        /** Settings in which a term cannot be what it must be go. */
        private void obey(State s, int t) {
            boolean holds = (s.mustHold >> t & 1) == 1;
            boolean fails = (s.mustFail >> t & 1) == 1;
            for (int w = 0; w < words; w++) {
                int at = t * State.WORDS + w;
                yes[at] = fails ? 0 : yes[at];
                no[at] = holds ? 0 : no[at];
                s.left[w] &= yes[at] | no[at];
            }
            certain[t] = holds ? 1 : 0;
        }

        /** What must be so makes more so, and that is settled in the case; whether it still can be. */
        boolean spread(State s) {
            dead = false;
            for (int i = question.usedCount - 1; i >= 0 && !dead; i--) {
                int t = question.used[i];
                boolean must = ((s.mustHold | s.mustFail) >> t & 1) == 1;
                if (must && (settled >> t & 1) == 0 && terms.parts[t] > 0) {
                    int wanted = (int) (s.mustHold >> t & 1);
                    int side = terms.sort[terms.part(t, 0)];
                    if (side == BOOL) {
                        spreadToParts(s, t, wanted);
                    } else if (side == INT && terms.kind[t] >= EQUAL) {
                        spreadToPairs(s, t, wanted);
                    }
                }
            }
            for (int p = 0; p < question.pairCount && !dead; p++) {
                if ((s.unlike >> p & 1) == 1) {
                    tighten(s, p);
                }
            }
            return !dead;
        }

        private void need(State s, int t, int so) {
            if (certain[t] != OPEN_VERDICT) {
                dead |= certain[t] != so;
                return;
            }
            moved = true;
            if (so == 1) {
                s.mustHold |= 1L << t;
            } else {
                s.mustFail |= 1L << t;
            }
        }

        /** An open part that would make the whole wrong, if it were so, must be the opposite. */
        private void spreadToParts(State s, int t, int wanted) {
            for (int i = 0; i < terms.parts[t]; i++) {
                int part = terms.part(t, i);
                for (int so = 0; so <= 1 && certain[part] == OPEN_VERDICT; so++) {
                    certain[part] = so;
                    int whole = terms.kind[t] == ITE ? choice(t, certain) : connect(t, certain);
                    certain[part] = OPEN_VERDICT;
                    if (whole == 1 - wanted) {
                        need(s, part, 1 - so);
                    }
                }
            }
        }

        /** All pairs must be so; or, if just one of them may not be so, that one must not. */
        private void spreadToPairs(State s, int t, int wanted) {
            int accepts = ACCEPTS[terms.kind[t] - EQUAL];
            int good = wanted == 1 ? accepts : ANYHOW - accepts;
            int n = question.first[t];
            if (wanted == 0 && countDoubtful(s, t) != 1) {
                return;
            }
            for (int i = 0; i < terms.parts[t]; i++) {
                for (int j = i + 1; j <= terms.lastPartner(t, i) && n < question.toldCount; j++) {
                    int a = terms.part(t, i);
                    int b = terms.part(t, j);
                    int p = question.told[n];
                    int can = possible(s, a, b, p);
                    int both = can & good;
                    n++;
                    if (wanted == 1 && both == 0) {
                        dead = true;
                    } else if (both != 0 && both != can && base[a] != NONE && base[b] != NONE) {
                        moved = true;
                        if (both != (BELOW | ABOVE)) {
                            dead |= !s.relate(base[a], base[b], offset[b] - offset[a], both, question.nodes);
                        } else if (p != NONE) {
                            s.unlike |= 1L << p;
                        }
                    }
                }
            }
        }

        /** How many pairs of a comparison may be wrong. */
        private int countDoubtful(State s, int t) {
            int accepts = ACCEPTS[terms.kind[t] - EQUAL];
            int n = question.first[t];
            int count = 0;
            for (int i = 0; i < terms.parts[t]; i++) {
                for (int j = i + 1; j <= terms.lastPartner(t, i) && n < question.toldCount; j++) {
                    if ((possible(s, terms.part(t, i), terms.part(t, j), question.told[n]) & ~accepts) != 0) {
                        count++;
                    }
                    n++;
                }
            }
            return count;
        }

        /** Two that must not be alike, and of which one cannot be above the other, are in an order. */
        private void tighten(State s, int p) {
            int a = question.pairA[p];
            int b = question.pairB[p];
            int can = possible(s, a, b, NONE);
            if ((can & ALIKE) == 0) {
                s.unlike &= ~(1L << p);
            } else if (can == ALIKE) {
                dead = true;
            } else if (can != ANYHOW) {
                moved = true;
                dead |= !s.relate(base[a], base[b], offset[b] - offset[a], can & ~ALIKE, question.nodes);
            }
        }

        private void locate(int t) {
            int from = t;
            offset[t] = 0;
            switch (terms.kind[t]) {
                case CONSTANT:
                    base[t] = 0;
                    offset[t] = terms.number[t];
                    return;
                case PLUS:
                    from = terms.part(t, 0);
                    break;
                case ITE:
                    from = chosenPart(t);
                    break;
                default:
                    base[t] = question.node[t];
                    return;
            }
            base[t] = from == NONE ? NONE : base[from];
            if (base[t] != NONE) {
                offset[t] = offset[from] + (terms.kind[t] == PLUS ? terms.number[t] : 0);
            }
        }

        /** The part that an ITE is for sure; NONE while its condition is open and the two are not alike. */
        private int chosenPart(int t) {
            int one = terms.part(t, 1);
            int other = terms.part(t, 2);
            int condition = certain[terms.part(t, 0)];
            if (condition == OPEN_VERDICT) {
                return base[one] != NONE && base[one] == base[other] && offset[one] == offset[other] ? one : NONE;
            }
            return condition == 1 ? one : other;
        }

        /** One after the other gets the number nearest to 0 that the ones before it leave; and the least setting. */
        void choose(State s) {
            s.x[0] = 0;
            for (int k = 1; k < question.nodes; k++) {
                int low = -State.FREE;
                int high = State.FREE;
                for (int j = 0; j < k; j++) {
                    int up = s.above[k * State.WIDTH + j];
                    int down = s.above[j * State.WIDTH + k];
                    high = up == State.FREE ? high : Math.min(high, s.x[j] + up);
                    low = down == State.FREE ? low : Math.max(low, s.x[j] - down);
                }
                s.x[k] = nearest(s, k, low, high);
            }
            s.takeLeastSetting();
        }

        /** The number nearest to 0 that is like none that it must not be like; if there is none, just the nearest. */
        private int nearest(State s, int k, int low, int high) {
            int simple = low > 0 ? low : Math.min(high, 0);
            int v = simple;
            for (int i = 0; s.unlike != 0 && i < 2 * question.pairCount + 2; i++) {
                if (v >= low && v <= high && !isTaken(s, k, v)) {
                    return v;
                }
                v = v > 0 ? -v : 1 - v;
            }
            return simple;
        }

        private boolean isTaken(State s, int k, int v) {
            for (int p = 0; p < question.pairCount; p++) {
                int a = question.pairA[p];
                int b = question.pairB[p];
                if ((s.unlike >> p & 1) == 1 && base[a] != NONE && base[b] != NONE) {
                    int gap = offset[b] - offset[a];
                    boolean byA = base[a] == k && base[b] < k && v == s.x[base[b]] + gap;
                    if (byA || base[b] == k && base[a] < k && v == s.x[base[a]] - gap) {
                        return true;
                    }
                }
            }
            return false;
        }

        /** Two that must not be alike, and are so for the chosen numbers, are a flaw: there was no room. */
        void findTight(State s) {
            for (int p = 0; flaw == 0 && p < question.pairCount; p++) {
                int a = question.pairA[p];
                int b = question.pairB[p];
                if ((s.unlike >> p & 1) == 1 && base[a] != NONE && base[b] != NONE
                        && s.x[base[a]] + offset[a] == s.x[base[b]] + offset[b]) {
                    blame(FLAW_TIGHT, a, b);
                }
            }
        }

        /** Finds what is so for the chosen numbers and the least setting. */
        void evaluate(State s) {
            for (int i = 0; i < question.usedCount; i++) {
                int t = question.used[i];
                if (terms.sort[t] == INT) {
                    actual[t] = number(s, t);
                } else if (terms.sort[t] == BOOL) {
                    actual[t] = verdict(s, t);
                }
            }
        }

        private int number(State s, int t) {
            switch (terms.kind[t]) {
                case CONSTANT:
                    return terms.number[t];
                case PLUS:
                    return actual[terms.part(t, 0)] + terms.number[t];
                case ITE:
                    return actual[terms.part(t, actual[terms.part(t, 0)] == 1 ? 1 : 2)];
                default:
                    return s.x[question.node[t]];
            }
        }

        private int verdict(State s, int t) {
            switch (terms.kind[t]) {
                case NAME:
                case APPLICATION:
                    return s.setting >> question.positionOf(t) & 1;
                case ITE:
                    return choice(t, actual);
                case TRUE:
                    return 1;
                case FALSE:
                    return 0;
                default:
                    break;
            }
            int side = terms.sort[terms.part(t, 0)];
            if (side == BOOL) {
                return connect(t, actual);
            }
            return side == INT ? compareAll(s, t, true) : verdictAt(s, t);
        }

        /** What a term is in the least setting, as far as the case tells. */
        private int verdictAt(State s, int t) {
            int at = t * State.WORDS + (s.setting >> 6);
            boolean may = (yes[at] >> (s.setting & 63) & 1) == 1;
            boolean mayNot = (no[at] >> (s.setting & 63) & 1) == 1;
            if (may && mayNot) {
                return OPEN_VERDICT;
            }
            return may ? 1 : 0;
        }

        private int choice(int t, int[] so) {
            int condition = so[terms.part(t, 0)];
            int one = so[terms.part(t, 1)];
            int other = so[terms.part(t, 2)];
            if (condition == OPEN_VERDICT) {
                return one == other ? one : OPEN_VERDICT;
            }
            return condition == 1 ? one : other;
        }

        private int connect(int t, int[] so) {
            int count = terms.parts[t];
            int trues = 0;
            int falses = 0;
            for (int i = 0; i < count; i++) {
                int part = so[terms.part(t, i)];
                trues += part == 1 ? 1 : 0;
                falses += part == 0 ? 1 : 0;
            }
            int open = count - trues - falses;
            int last = so[terms.part(t, count - 1)];
            switch (terms.kind[t]) {
                case NOT:
                    return open > 0 ? OPEN_VERDICT : falses;
                case AND:
                    return settle(trues == count, falses > 0);
                case OR:
                    return settle(trues > 0, falses == count);
                case XOR:
                    return open > 0 ? OPEN_VERDICT : trues & 1;
                case IMPLIES:
                    return settle(last == 1 || falses - (last == 0 ? 1 : 0) > 0, last == 0 && trues == count - 1);
                case EQUAL:
                    return settle(trues == count || falses == count, trues > 0 && falses > 0);
                default:
                    return settle(count == 2 && trues == 1 && falses == 1, count > 2 || trues > 1 || falses > 1);
            }
        }

        private static int settle(boolean holds, boolean fails) {
            if (holds) {
                return 1;
            }
            return fails ? 0 : OPEN_VERDICT;
        }

        private int compareAll(State s, int t, boolean exact) {
            int accepts = ACCEPTS[terms.kind[t] - EQUAL];
            int n = question.first[t];
            int result = 1;
            for (int i = 0; i < terms.parts[t]; i++) {
                for (int j = i + 1; j <= terms.lastPartner(t, i) && n < question.toldCount; j++) {
                    int a = terms.part(t, i);
                    int b = terms.part(t, j);
                    int can = exact ? relation(a, b) : possible(s, a, b, question.told[n]);
                    n++;
                    if ((can & accepts) == 0) {
                        return 0;
                    }
                    if ((can & ~accepts) != 0) {
                        result = OPEN_VERDICT;
                    }
                }
            }
            return result;
        }

        /** The settings of a word in which an EQUAL or DISTINCT of arrays is true. */
        private long equateAll(int t, int w) {
            int e = question.first[t];
            long result = -1L;
            for (int i = 0; i < terms.pairs(t); i++) {
                long ones = Question.settingsWith(question.positionOfEquation(e + i), w);
                result &= terms.kind[t] == EQUAL ? ones : ~ones;
            }
            return result;
        }

        int relation(int a, int b) {
            if (actual[a] == actual[b]) {
                return ALIKE;
            }
            return actual[a] < actual[b] ? BELOW : ABOVE;
        }

        /** How a can lie to b in this case, if these are pair p (NONE: it has no number). */
        int possible(State s, int a, int b, int p) {
            if (a == b) {
                return ALIKE;
            }
            int can = p != NONE && (s.unlike >> p & 1) == 1 ? BELOW | ABOVE : ANYHOW;
            if (base[a] == NONE || base[b] == NONE) {
                return can;
            }
            int more = s.above[base[a] * State.WIDTH + base[b]];
            int less = s.above[base[b] * State.WIDTH + base[a]];
            int shift = offset[a] - offset[b];
            if (more != State.FREE) {
                can &= more + shift > 0 ? ANYHOW : more + shift == 0 ? BELOW | ALIKE : BELOW;
            }
            if (less != State.FREE) {
                can &= less - shift > 0 ? ANYHOW : less - shift == 0 ? ABOVE | ALIKE : ABOVE;
            }
            return can;
        }

        /** Two terms may be alike in this case, and may be not. */
        boolean isOpen(State s, int a, int b) {
            int can = possible(s, a, b, question.pairOf(a, b));
            return (can & ALIKE) != 0 && can != ALIKE;
        }

        /** Something must be decided here: a term, an equation, or how two terms lie. */
        void blame(int kind, int a, int b) {
            flaw = kind;
            flawA = a;
            flawB = b;
            flawAccepts = ALIKE;
        }

        /** The first term that must be so and is not so is a flaw: nothing below it is wrong, just open. */
        void findFailed(State s) {
            for (int i = 0; flaw == 0 && i < question.usedCount; i++) {
                int t = question.used[i];
                long wrong = actual[t] == 1 ? s.mustFail : s.mustHold;
                if (terms.sort[t] == BOOL && (wrong >> t & 1) == 1) {
                    blame(FLAW_OPEN, t, NONE);
                }
            }
        }

        /** Goes down from what is to blame to something that can be decided. */
        void narrow(State s) {
            for (int i = 0; i < MAX_TERMS && flaw == FLAW_OPEN; i++) {
                lookBelow(s, flawA);
            }
            if (flaw == FLAW_PAIR || flaw == FLAW_MERGE) {
                int condition = awaited(flawA, flawB);
                if (condition != NONE) {
                    blame(FLAW_CONDITION, condition, NONE);
                }
            }
        }

        /** The open condition that one of two Int terms hangs on; NONE when both are located. */
        int awaited(int a, int b) {
            if (base[a] == NONE) {
                return openCondition(a);
            }
            return base[b] == NONE ? openCondition(b) : NONE;
        }

        private int openCondition(int from) {
            int t = from;
            for (int i = 0; i < MAX_TERMS; i++) {
                if (terms.kind[t] == PLUS) {
                    t = terms.part(t, 0);
                } else if (terms.kind[t] != ITE) {
                    return NONE;
                } else if (certain[terms.part(t, 0)] == OPEN_VERDICT) {
                    return terms.part(t, 0);
                } else {
                    t = terms.part(t, 2 - certain[terms.part(t, 0)]);
                }
            }
            return NONE;
        }

        /** A term is open for one of its parts, or for two of them. */
        private void lookBelow(State s, int t) {
            int side = terms.parts[t] > 0 ? terms.sort[terms.part(t, 0)] : NONE;
            flaw = FLAW_DEAD;
            if (terms.kind[t] == ITE) {
                int condition = verdictAt(s, terms.part(t, 0));
                blame(FLAW_OPEN, terms.part(t, condition == OPEN_VERDICT ? 0 : 2 - condition), NONE);
            } else if (side == BOOL) {
                blameOpenPart(s, t);
            } else if (side == INT && terms.kind[t] >= EQUAL) {
                blameOpenPair(s, t);
            }
        }

        /** To turn an open part that agrees with the whole is most likely to turn the whole. */
        private void blameOpenPart(State s, int t) {
            int found = NONE;
            for (int i = terms.parts[t] - 1; i >= 0; i--) {
                int part = terms.part(t, i);
                if ((found == NONE || actual[part] == actual[t]) && verdictAt(s, part) == OPEN_VERDICT) {
                    found = part;
                }
            }
            if (found != NONE) {
                blame(FLAW_OPEN, found, NONE);
            }
        }

        private void blameOpenPair(State s, int t) {
            int accepts = ACCEPTS[terms.kind[t] - EQUAL];
            int n = question.first[t];
            boolean wrong = false;
            for (int i = 0; i < terms.parts[t]; i++) {
                for (int j = i + 1; j <= terms.lastPartner(t, i) && n < question.toldCount; j++) {
                    int a = terms.part(t, i);
                    int b = terms.part(t, j);
                    int can = possible(s, a, b, question.told[n]);
                    boolean open = (can & accepts) != 0 && (can & ~accepts) != 0;
                    n++;
                    if (open && (flaw == FLAW_DEAD || !wrong && (relation(a, b) & accepts) == 0)) {
                        wrong = (relation(a, b) & accepts) == 0;
                        blame(FLAW_PAIR, a, b);
                        flawAccepts = accepts;
                    }
                }
            }
        }
    }

    /**
     * Whether arrays can be as the chosen numbers want them. A slot is what an array has at one of the
     * places that matter; one slot more is all that it has elsewhere, which can always be made different.
     */
    private static final class Slots {
        private static final int WIDTH = 4;
        private static final int ELSEWHERE = 3;

        private final Terms terms;
        private final Question question;
        private final Judge judge;
        private final int[] arrays = new int[MAX_ARRAYS];
        private final int[] places = new int[MAX_PLACES];
        private final int[] row = new int[MAX_TERMS];
        private final int[] parent = new int[MAX_ARRAYS * WIDTH];
        private final int[] content = new int[MAX_ARRAYS * WIDTH];
        private int arrayCount = 0;
        private int placeCount = 0;
        private int clashA = NONE;
        private int clashB = NONE;

        Slots(Terms terms, Question question, Judge judge) {
            this.terms = terms;
            this.question = question;
            this.judge = judge;
        }

        /** Must be called when the question has been gathered. */
        void gather() {
            arrayCount = 0;
            placeCount = 0;
            for (int i = 0; i < question.usedCount; i++) {
                int t = question.used[i];
                if (terms.sort[t] == ARRAY && arrayCount < arrays.length) {
                    row[t] = arrayCount;
                    arrays[arrayCount] = t;
                    arrayCount++;
                }
                if (terms.hasPlace(t) && placeCount < places.length && !isPlace(terms.part(t, 1))) {
                    places[placeCount] = terms.part(t, 1);
                    placeCount++;
                }
            }
        }

        private boolean isPlace(int t) {
            for (int i = 0; i < placeCount; i++) {
                if (places[i] == t) {
                    return true;
                }
            }
            return false;
        }

        /** The first place with this place's number. */
        private int column(int place) {
            for (int i = 0; i < placeCount; i++) {
                if (judge.actual[places[i]] == judge.actual[place]) {
                    return i;
                }
            }
            return 0;
        }

        /** What the arrays cannot be is a flaw. */
        void findFlaw(State s) {
            if (judge.flaw != 0 || arrayCount == 0) {
                return;
            }
            for (int i = 0; i < parent.length; i++) {
                parent[i] = i;
                content[i] = NONE;
            }
            clashA = NONE;
            joinAlike(s);
            fill();
            int e = clashA == NONE ? firstAlike(s) : NONE;
            if (e != NONE || clashA != NONE) {
                blameOpenEquation(s, e);
            }
            if (judge.flaw == 0 && (e != NONE || clashA != NONE)) {
                blameShape(s);
            }
            if (judge.flaw == 0 && clashA != NONE) {
                judge.blame(FLAW_MERGE, clashA, clashB);
            } else if (judge.flaw == 0 && e != NONE) {
                blameContents(s, e);
            }
        }

        private boolean isTrue(State s, int e) {
            return (s.setting >> question.positionOfEquation(e) & 1) == 1;
        }

        /** Is the equation that fails, or one that makes rows alike, not so in all settings that are left? */
        private void blameOpenEquation(State s, int failed) {
            for (int e = 0; e < question.equations; e++) {
                if ((e == failed || isTrue(s, e)) && s.isDivided(question.positionOfEquation(e))) {
                    judge.blame(FLAW_EQUATION, e, NONE);
                    return;
                }
            }
        }

        /** The first equation that is false, though its rows must be alike; NONE. */
        private int firstAlike(State s) {
            for (int e = 0; e < question.equations; e++) {
                if (!isTrue(s, e) && !canDiffer(e)) {
                    return e;
                }
            }
            return NONE;
        }

        /** Rows that are one by an ITE, a STORE or an equation share their slots. */
        private void joinAlike(State s) {
            for (int i = 0; i < arrayCount; i++) {
                int t = arrays[i];
                if (terms.kind[t] == STORE) {
                    joinRows(i, row[terms.part(t, 0)], column(terms.part(t, 1)));
                } else if (terms.kind[t] == ITE) {
                    int chosen = judge.actual[terms.part(t, 0)] == 1 ? 1 : 2;
                    joinRows(i, row[terms.part(t, chosen)], NONE);
                }
            }
            for (int e = 0; e < question.equations; e++) {
                if (isTrue(s, e)) {
                    joinRows(row[question.left[e]], row[question.right[e]], NONE);
                }
            }
        }

        private void joinRows(int a, int b, int except) {
            for (int c = 0; c < WIDTH; c++) {
                if (c != except) {
                    parent[find(b * WIDTH + c)] = find(a * WIDTH + c);
                }
            }
        }

        private int find(int slot) {
            int at = slot;
            for (int i = 0; i < parent.length && parent[at] != at; i++) {
                at = parent[at];
            }
            return at;
        }

        /** What is stored and what is selected stands in the slots. */
        private void fill() {
            for (int i = 0; i < question.usedCount; i++) {
                int t = question.used[i];
                if (terms.kind[t] == STORE) {
                    put(row[t], terms.part(t, 1), terms.part(t, 2));
                } else if (terms.kind[t] == SELECT) {
                    put(row[terms.part(t, 0)], terms.part(t, 1), t);
                }
            }
        }

        private void put(int array, int place, int t) {
            int slot = find(array * WIDTH + column(place));
            if (content[slot] == NONE) {
                content[slot] = t;
            } else if (judge.actual[content[slot]] != judge.actual[t]) {
                clashA = content[slot];
                clashB = t;
            }
        }

        private boolean canDiffer(int e) {
            int a = row[question.left[e]];
            int b = row[question.right[e]];
            if (find(a * WIDTH + ELSEWHERE) != find(b * WIDTH + ELSEWHERE)) {
                return true;
            }
            for (int c = 0; c < placeCount; c++) {
                int one = find(a * WIDTH + column(places[c]));
                int other = find(b * WIDTH + column(places[c]));
                if (one != other && !areSame(content[one], content[other])) {
                    return true;
                }
            }
            return false;
        }

        private boolean areSame(int t, int u) {
            return t != NONE && u != NONE && judge.actual[t] == judge.actual[u];
        }

        /** Which slots are one hangs on conditions of ITEs and on how places lie: is one of these open? */
        private void blameShape(State s) {
            for (int i = 0; i < arrayCount; i++) {
                int t = arrays[i];
                if (terms.kind[t] == ITE && judge.certain[terms.part(t, 0)] == OPEN_VERDICT) {
                    judge.blame(FLAW_CONDITION, terms.part(t, 0), NONE);
                    return;
                }
            }
            for (int i = 0; i < placeCount; i++) {
                for (int j = 0; j < i; j++) {
                    if (judge.isOpen(s, places[i], places[j])) {
                        judge.blame(FLAW_PAIR, places[i], places[j]);
                        return;
                    }
                }
            }
        }

        /** The two rows must differ at a place that matters: contents that may yet do so are to blame. */
        private void blameContents(State s, int e) {
            judge.flaw = FLAW_DEAD;
            int a = row[question.left[e]];
            int b = row[question.right[e]];
            for (int c = 0; c < placeCount; c++) {
                int one = content[find(a * WIDTH + column(places[c]))];
                int other = content[find(b * WIDTH + column(places[c]))];
                if (one != NONE && other != NONE && judge.isOpen(s, one, other)) {
                    judge.blame(FLAW_PAIR, one, other);
                    return;
                }
            }
        }
    }

    /** Goes through cases, each with numbers that are best in it, and splits one where these are no model. */
    private static final class Search {
        /** Above all bounds that there can be: a model with such a gap shows that there is no bound. */
        static final int ENDLESS = 200000000;
        /** What is aimed at without a bound; the terms' own numbers take a little of it away. */
        private static final int AIM = 400000000;
        /** No run needs half as many: each split settles one of some 200 things for good. */
        private static final int MAX_STATES = 512;
        private static final int MAX_SPLIT = 3;
        private static final int MAX_ROUNDS = 1000;
        /**
         * Far above what any run can need: 12 comparisons part 6 numbers into some 2,500 regions (as many as there
         * are ways to take no more than 6 of 12), 8 times as many for the conditions of 3 ITEs. Numbers that have
         * little room, functions and arrays make it more: 70,000 cases were the most that a search was made to need.
         */
        private static final int MAX_CASES = 1000000000;

        private final Terms terms;
        private final Question question;
        private final Judge judge;
        private final Slots slots;
        private final State[] waiting = new State[MAX_STATES];
        private final State best = new State();
        private final State aim = new State();
        final int[] bestValue = new int[MAX_TERMS];
        private State current = new State();
        private int top = 0;
        private int mode = SEEK_ANY;
        private int high = NONE;
        private int low = NONE;
        private boolean found = false;
        long most = 0;
        long seenTrue = 0;
        long seenFalse = 0;

        Search(Terms terms, Question question) {
            this.terms = terms;
            this.question = question;
            this.judge = new Judge(terms, question);
            this.slots = new Slots(terms, question, judge);
        }

        /** Any model, the least one, or one in which one term is above another the most. */
        boolean seek(int what, int upper, int lower) {
            mode = what;
            high = upper;
            low = lower;
            found = false;
            top = 0;
            judge.gather();
            slots.gather();
            pushFirst();
            for (int i = 0; i < MAX_CASES && top > 0; i++) {
                takeNext();
                boolean alive = isAhead();
                for (int round = 0; round < MAX_ROUNDS && alive && judge.moved; round++) {
                    alive = judge.assess(current) && judge.spread(current);
                    if (alive && judge.moved) {
                        judge.choose(current);
                        alive = isAhead();
                    }
                }
                if (alive && isHighEnough()) {
                    judge.evaluate(current);
                    judge.findTight(current);
                    judge.findFailed(current);
                    findTornFunction();
                    slots.findFlaw(current);
                    if (judge.flaw == 0) {
                        keep();
                    } else {
                        int bottom = top;
                        judge.narrow(current);
                        split();
                        readyWaiting(bottom);
                    }
                }
                if (found && (mode == SEEK_ANY || mode == SEEK_MOST && most >= ENDLESS)) {
                    return true;
                }
            }
            return found;
        }

        private void pushFirst() {
            makeRoom();
            State s = waiting[0];
            if (s == null) {
                return;
            }
            s.reset();
            s.mustHold = question.mustHold;
            s.mustFail = question.mustFail;
            for (int w = 0; w < State.WORDS; w++) {
                s.left[w] = question.allSettings(w);
            }
            for (int e = 0; e < question.equations; e++) {
                if (question.left[e] == question.right[e]) {
                    s.leaveThoseWith(question.positionOfEquation(e), 1);
                }
            }
            s.takeLeastSetting();
            top = 1;
        }

        /** As many states as one case can fall into are there; each is made once, and used again. */
        private void makeRoom() {
            for (int i = top; i < top + MAX_SPLIT && i < MAX_STATES; i++) {
                if (waiting[i] == null) {
                    waiting[i] = new State();
                }
            }
        }

        /** The waiting case on top becomes the current one; the state of the one before waits in its stead. */
        private void takeNext() {
            makeRoom();
            top--;
            State s = waiting[top];
            if (s != null) {
                waiting[top] = current;
                current = s;
            }
            judge.flaw = 0;
            judge.moved = true;
        }

        /** In search of the least: whether this case's numbers come ahead of the best ones so far. */
        private boolean isAhead() {
            return mode != SEEK_LEAST || !found || compareNumbers(current, best) < 0;
        }

        /** In search of the most: aims at the greatest gap, if it is above the best one so far. */
        private boolean isHighEnough() {
            if (mode != SEEK_MOST) {
                return true;
            }
            int condition = judge.awaited(high, low);
            if (condition != NONE) {
                judge.blame(FLAW_CONDITION, condition, NONE);
                return true;
            }
            int h = judge.base[high];
            int l = judge.base[low];
            int gap = Math.min(current.above[h * State.WIDTH + l], AIM);
            if (found && (long) gap + judge.offset[high] - judge.offset[low] <= most) {
                return false;
            }
            aim.copyFrom(current);
            if (!aim.bound(l, h, -gap, question.nodes)) {
                return false;
            }
            judge.choose(aim);
            System.arraycopy(aim.x, 0, current.x, 0, State.WIDTH);
            return true;
        }

        /** A function that gives two numbers for the same parts is a flaw. */
        private void findTornFunction() {
            for (int i = 0; i < question.unitCount; i++) {
                int a = question.units[i];
                for (int j = 0; judge.flaw == 0 && terms.kind[a] == APPLICATION && j < i; j++) {
                    int b = question.units[j];
                    if (terms.kind[b] == APPLICATION && terms.number[a] == terms.number[b]
                            && judge.actual[a] != judge.actual[b] && haveSameParts(a, b)) {
                        blameFunction(a, b);
                    }
                }
            }
        }

        private boolean haveSameParts(int a, int b) {
            for (int i = 0; i < terms.parts[a]; i++) {
                if (judge.actual[terms.part(a, i)] != judge.actual[terms.part(b, i)]) {
                    return false;
                }
            }
            return true;
        }

        private void blameFunction(int a, int b) {
            for (int i = 0; i < terms.parts[a]; i++) {
                if (judge.isOpen(current, terms.part(a, i), terms.part(b, i))) {
                    judge.blame(FLAW_PAIR, terms.part(a, i), terms.part(b, i));
                    return;
                }
            }
            judge.blame(terms.sort[a] == INT ? FLAW_MERGE : FLAW_SAME, a, b);
        }

        /** The current case is a model: it is the best one so far. */
        private void keep() {
            if (mode == SEEK_MOST) {
                long gap = (long) judge.actual[high] - judge.actual[low];
                most = found ? Math.max(most, gap) : gap;
            }
            found = true;
            best.copyFrom(current);
            for (int i = 0; i < question.usedCount; i++) {
                int t = question.used[i];
                bestValue[t] = judge.actual[t];
                if (terms.sort[t] == BOOL && judge.actual[t] == 1) {
                    seenTrue |= 1L << t;
                } else if (terms.sort[t] == BOOL) {
                    seenFalse |= 1L << t;
                }
            }
        }

        /** The cases that the current one falls into by its flaw; the likeliest is looked at first. */
        private void split() {
            int now = judge.flawA;
            if (top + MAX_SPLIT > MAX_STATES) {
                return;
            }
            switch (judge.flaw) {
                case FLAW_CONDITION:
                    pushCondition(now, judge.actual[now]);
                    pushCondition(now, 1 - judge.actual[now]);
                    break;
                case FLAW_EQUATION:
                    pushEquation(now, 0);
                    pushEquation(now, 1);
                    break;
                case FLAW_SAME:
                    pushSame(now, judge.flawB);
                    break;
                case FLAW_PAIR:
                    int pair = question.pairOf(now, judge.flawB);
                    int is = judge.relation(now, judge.flawB);
                    pushPair(relationAt(is, 0, pair), pair);
                    pushPair(relationAt(is, 1, pair), pair);
                    pushPair(relationAt(is, 2, pair), pair);
                    break;
                case FLAW_MERGE:
                    pushPair(ALIKE, NONE);
                    break;
                case FLAW_TIGHT:
                    pushPair(ABOVE, NONE);
                    pushPair(BELOW, NONE);
                    break;
                default:
                    break;
            }
        }

        /**
         * A pair's cases, what it is now ahead of what it should be; a 0 where there are just two. That two are
         * not alike is one case, as long as the pair has a number: most of all, it makes cases few.
         */
        private int relationAt(int is, int which, int pair) {
            int accepts = judge.flawAccepts;
            boolean ofOrder = accepts != ALIKE && accepts != (BELOW | ABOVE);
            if (ofOrder || pair != NONE) {
                int same = (accepts & is) != 0 ? accepts : ANYHOW - accepts;
                return which == 0 ? same : which == 1 ? ANYHOW - same : 0;
            }
            if (which == 0) {
                return is;
            }
            if (which == 1) {
                return is == ABOVE ? BELOW : ABOVE;
            }
            return is == ALIKE ? BELOW : ALIKE;
        }

        private void pushCondition(int t, int so) {
            State s = waiting[top];
            if (s != null) {
                s.copyFrom(current);
                s.mustHold |= so == 1 ? 1L << t : 0;
                s.mustFail |= so == 1 ? 0 : 1L << t;
                top++;
            }
        }

        private void pushEquation(int e, int so) {
            State s = waiting[top];
            if (s != null) {
                s.copyFrom(current);
                s.leaveThoseWith(question.positionOfEquation(e), so);
                top++;
            }
        }

        /** Two Bools of a function that have the same parts are the same. */
        private void pushSame(int a, int b) {
            State s = waiting[top];
            if (s != null) {
                s.copyFrom(current);
                s.leaveThoseAlike(question.positionOf(a), question.positionOf(b));
                top++;
            }
        }

        private void pushPair(int relation, int pair) {
            State s = waiting[top];
            if (relation == 0 || s == null) {
                return;
            }
            s.copyFrom(current);
            int gap = judge.offset[judge.flawB] - judge.offset[judge.flawA];
            if (relation == (BELOW | ABOVE) && pair != NONE) {
                s.unlike |= 1L << pair;
                top++;
            } else if (s.relate(judge.base[judge.flawA], judge.base[judge.flawB], gap, relation, question.nodes)) {
                top++;
            }
        }

        /** New cases get their numbers; in search of the least, the one with the best comes to the top. */
        private void readyWaiting(int bottom) {
            for (int i = bottom; i < top; i++) {
                State s = waiting[i];
                if (s != null) {
                    judge.choose(s);
                }
            }
            for (int i = bottom + 1; mode == SEEK_LEAST && i < top; i++) {
                for (int j = i; j > bottom; j--) {
                    State upper = waiting[j];
                    State lower = waiting[j - 1];
                    if (upper == null || lower == null || compareNumbers(upper, lower) <= 0) {
                        break;
                    }
                    waiting[j] = lower;
                    waiting[j - 1] = upper;
                }
            }
        }

        /** Below 0 if the first one's numbers, Bools and equations come ahead of the second one's. */
        private int compareNumbers(State a, State b) {
            for (int i = 0; i < question.unitCount; i++) {
                int t = question.units[i];
                if (terms.sort[t] == BOOL) {
                    int position = question.positionOf(t);
                    int so = a.setting >> position & 1;
                    if (so != (b.setting >> position & 1)) {
                        return so == 0 ? -1 : 1;
                    }
                } else {
                    long one = rank(a.x[question.node[t]]);
                    long other = rank(b.x[question.node[t]]);
                    if (one != other) {
                        return one < other ? -1 : 1;
                    }
                }
            }
            return a.setting - b.setting;
        }

        private static long rank(int v) {
            return v > 0 ? 2L * v - 1 : -2L * v;
        }
    }

    /** The draft, the steps, and what the ten rules allow. */
    private static final class Proof {
        private static final int ZERO = MAX_TERMS;

        private final Terms terms;
        private final int[] draft = new int[MAX_CLAUSE];
        private final int[] steps = new int[MAX_STEPS * MAX_CLAUSE];
        private final int[] stepSize = new int[MAX_STEPS];
        private final long[] distance = new long[MAX_TERMS + 1];
        private final boolean[] reached = new boolean[MAX_TERMS];
        private boolean shorter = false;
        int draftSize = 0;
        private int stepCount = 0;

        Proof(Terms terms) {
            this.terms = terms;
        }

        void dropAll() {
            draftSize = 0;
            stepCount = 0;
        }

        int add(int l) {
            if (l < 0 || !terms.has(l >> 1) || terms.sort[l >> 1] != BOOL) {
                return NONE;
            }
            if (inDraft(l)) {
                return draftSize;
            }
            if (draftSize >= MAX_CLAUSE) {
                return NONE;
            }
            int at = draftSize;
            for (int i = draftSize; i > 0 && draft[i - 1] > l; i--) {
                draft[i] = draft[i - 1];
                at = i - 1;
            }
            draft[at] = l;
            draftSize++;
            return draftSize;
        }

        private boolean inDraft(int l) {
            for (int i = 0; i < draftSize; i++) {
                if (draft[i] == l) {
                    return true;
                }
            }
            return false;
        }

        int tell(int k, int i) {
            if (k < -1 || k >= stepCount) {
                return NONE;
            }
            int length = k == -1 ? draftSize : stepSize[k];
            if (i == -1) {
                return length;
            }
            if (i < 0 || i >= length) {
                return NONE;
            }
            return k == -1 ? draft[i] : steps[k * MAX_CLAUSE + i];
        }

        int firstEmpty() {
            for (int k = 0; k < stepCount; k++) {
                if (stepSize[k] == 0) {
                    return k;
                }
            }
            return NONE;
        }

        int prove(int rule, int a, int b) {
            if (stepCount >= MAX_STEPS || !isAllowed(rule, a, b)) {
                return NONE;
            }
            System.arraycopy(draft, 0, steps, stepCount * MAX_CLAUSE, draftSize);
            stepSize[stepCount] = draftSize;
            stepCount++;
            draftSize = 0;
            return stepCount - 1;
        }

        private boolean isAllowed(int rule, int a, int b) {
            switch (rule) {
                case 0:
                    return terms.isAssertion(a) && inDraft(2 * terms.assertion[a]);
                case 1:
                    return isResolved(a, b);
                case 2:
                    return terms.has(a) && isConnected(a);
                case 3:
                    return isOrdered();
                case 4:
                    return terms.has(a) && terms.has(b) && isCongruent(a, b);
                case 5:
                    return isSelectOfStore(a) && isRead(a);
                case 6:
                    return isSelectOfStore(a) && terms.has(b) && isPassed(a, b);
                case 7:
                    return terms.has(a) && isChosen(a);
                case 8:
                    return terms.has(a) && terms.has(b) && isLinked(a, b);
                case 9:
                    return terms.has(a) && terms.has(b) && isSplit(a, b);
                default:
                    return false;
            }
        }

        private boolean isResolved(int a, int b) {
            if (a < 0 || a >= stepCount || b < 0 || b >= stepCount) {
                return false;
            }
            for (int i = 0; i < stepSize[a]; i++) {
                int l = steps[a * MAX_CLAUSE + i];
                if (inStep(b, l ^ 1) && hasOthers(a, l) && hasOthers(b, l ^ 1)) {
                    return true;
                }
            }
            return false;
        }

        private boolean inStep(int k, int l) {
            for (int i = 0; i < stepSize[k]; i++) {
                if (steps[k * MAX_CLAUSE + i] == l) {
                    return true;
                }
            }
            return false;
        }

        private boolean hasOthers(int k, int l) {
            for (int i = 0; i < stepSize[k]; i++) {
                int other = steps[k * MAX_CLAUSE + i];
                if (other != l && !inDraft(other)) {
                    return false;
                }
            }
            return true;
        }

        private boolean isConnected(int a) {
            int kind = terms.kind[a];
            boolean ofBools = terms.parts[a] > 0 && terms.sort[terms.part(a, 0)] == BOOL;
            boolean fits = kind >= TRUE && kind <= IMPLIES || kind == ITE && terms.sort[a] == BOOL
                    || (kind == EQUAL || kind == DISTINCT) && ofBools;
            if (!fits) {
                return false;
            }
            for (int row = 0; row < 1 << terms.parts[a]; row++) {
                if (isConsistent(a, row) && !isRowTrue(a, row)) {
                    return false;
                }
            }
            return true;
        }

        /** Whether one term that is a part twice is the same both times. */
        private boolean isConsistent(int a, int row) {
            for (int i = 0; i < terms.parts[a]; i++) {
                for (int j = 0; j < i; j++) {
                    if (terms.part(a, i) == terms.part(a, j) && (row >> i & 1) != (row >> j & 1)) {
                        return false;
                    }
                }
            }
            return true;
        }

        private boolean isRowTrue(int a, int row) {
            if (inDraft(2 * a + 1 - connect(a, row))) {
                return true;
            }
            for (int i = 0; i < terms.parts[a]; i++) {
                if (inDraft(2 * terms.part(a, i) + 1 - (row >> i & 1))) {
                    return true;
                }
            }
            return false;
        }

        /** What a is if its part i is bit i of the row. */
        private int connect(int a, int row) {
            int count = terms.parts[a];
            int all = (1 << count) - 1;
            int yes = Integer.bitCount(row);
            switch (terms.kind[a]) {
                case TRUE:
                    return 1;
                case FALSE:
                    return 0;
                case NOT:
                    return 1 - row;
                case AND:
                    return row == all ? 1 : 0;
                case OR:
                    return row != 0 ? 1 : 0;
                case XOR:
                    return yes & 1;
                case IMPLIES:
                    return row == all >> 1 ? 0 : 1;
                case EQUAL:
                    return row == 0 || row == all ? 1 : 0;
                case DISTINCT:
                    return count == 2 && yes == 1 ? 1 : 0;
                default:
                    return (row & 1) == 1 ? row >> 1 & 1 : row >> 2 & 1;
            }
        }

        /** The opposites of the draft's comparisons can't hold together: going round makes a way ever shorter. */
        private boolean isOrdered() {
            Arrays.fill(distance, 0);
            shorter = true;
            for (int round = 0; round <= MAX_TERMS + 1 && shorter; round++) {
                shorter = false;
                for (int i = 0; i < draftSize; i++) {
                    relaxLiteral(draft[i]);
                }
            }
            return shorter;
        }

        private void relaxLiteral(int l) {
            int t = l >> 1;
            int kind = terms.kind[t];
            if (kind < EQUAL || terms.sort[terms.part(t, 0)] != INT) {
                return;
            }
            boolean so = (l & 1) == 1;
            int says = so ? ACCEPTS[kind - EQUAL] : ANYHOW - ACCEPTS[kind - EQUAL];
            if (says == (BELOW | ABOVE) || !so && terms.parts[t] > 2) {
                return;
            }
            for (int i = 0; i + 1 < terms.parts[t]; i++) {
                int a = terms.part(t, i);
                int b = terms.part(t, i + 1);
                if ((says & ABOVE) == 0) {
                    relax(a, b, says == BELOW ? 1 : 0);
                }
                if ((says & BELOW) == 0) {
                    relax(b, a, says == ABOVE ? 1 : 0);
                }
            }
        }

        /** Term a is below term b by the gap at least. */
        private void relax(int a, int b, int gap) {
            long reach = distance[root(b)] + added(b) - added(a) - gap;
            if (reach < distance[root(a)]) {
                distance[root(a)] = reach;
                shorter = true;
            }
        }

        private int root(int t) {
            if (terms.kind[t] == CONSTANT) {
                return ZERO;
            }
            return terms.kind[t] == PLUS ? terms.part(t, 0) : t;
        }

        private int added(int t) {
            return terms.kind[t] == CONSTANT || terms.kind[t] == PLUS ? terms.number[t] : 0;
        }

        /** Whether the draft has the literal of an EQUAL of just these two (so = 1), or its opposite (0). */
        private boolean hasEqual(int a, int b, int so) {
            for (int i = 0; i < draftSize; i++) {
                int t = draft[i] >> 1;
                if ((draft[i] & 1) == 1 - so && terms.kind[t] == EQUAL && isPairOf(t, a, b)) {
                    return true;
                }
            }
            return false;
        }

        private boolean isPairOf(int t, int a, int b) {
            if (terms.parts[t] != 2) {
                return false;
            }
            int one = terms.part(t, 0);
            int other = terms.part(t, 1);
            return one == a && other == b || one == b && other == a;
        }

        private boolean isPartedOrOne(int a, int b) {
            return a == b || hasEqual(a, b, 0);
        }

        private boolean isCongruent(int a, int b) {
            int kind = terms.kind[a];
            boolean fits = kind == SELECT || kind == STORE
                    || kind == APPLICATION && terms.number[a] == terms.number[b];
            if (!fits || terms.kind[b] != kind || !hasEqual(a, b, 1)) {
                return false;
            }
            for (int i = 0; i < terms.parts[a]; i++) {
                if (!isPartedOrOne(terms.part(a, i), terms.part(b, i))) {
                    return false;
                }
            }
            return true;
        }

        private boolean isSelectOfStore(int a) {
            return terms.has(a) && terms.kind[a] == SELECT && terms.kind[terms.part(a, 0)] == STORE;
        }

        private boolean isRead(int a) {
            int store = terms.part(a, 0);
            return hasEqual(a, terms.part(store, 2), 1) && isPartedOrOne(terms.part(a, 1), terms.part(store, 1));
        }

        private boolean isPassed(int a, int b) {
            int store = terms.part(a, 0);
            return terms.kind[b] == SELECT && terms.part(b, 0) == terms.part(store, 0)
                    && terms.part(b, 1) == terms.part(a, 1) && hasEqual(a, b, 1)
                    && hasEqual(terms.part(a, 1), terms.part(store, 1), 1);
        }

        private boolean isChosen(int a) {
            if (terms.kind[a] != ITE || terms.sort[a] == BOOL) {
                return false;
            }
            int condition = terms.part(a, 0);
            return inDraft(2 * condition + 1) && hasEqual(a, terms.part(a, 1), 1)
                    || inDraft(2 * condition) && hasEqual(a, terms.part(a, 2), 1);
        }

        private boolean isLinked(int a, int b) {
            if (!hasEqual(a, b, 1)) {
                return false;
            }
            for (int t = 0; t < MAX_TERMS; t++) {
                reached[t] = t == a;
            }
            for (int round = 0; round < draftSize; round++) {
                for (int i = 0; i < draftSize; i++) {
                    int t = draft[i] >> 1;
                    if ((draft[i] & 1) == 1 && terms.kind[t] == EQUAL && terms.parts[t] == 2) {
                        boolean linked = reached[terms.part(t, 0)] || reached[terms.part(t, 1)];
                        reached[terms.part(t, 0)] = linked;
                        reached[terms.part(t, 1)] = linked;
                    }
                }
            }
            return reached[b];
        }

        private boolean isSplit(int a, int b) {
            return terms.sort[a] == INT && terms.sort[b] == INT && hasEqual(a, b, 1)
                    && saysBelow(a, b) && saysBelow(b, a);
        }

        private boolean saysBelow(int a, int b) {
            for (int i = 0; i < draftSize; i++) {
                int t = draft[i] >> 1;
                if ((draft[i] & 1) == 0 && terms.parts[t] == 2) {
                    boolean less = terms.kind[t] == LESS && terms.part(t, 0) == a && terms.part(t, 1) == b;
                    boolean more = terms.kind[t] == MORE && terms.part(t, 0) == b && terms.part(t, 1) == a;
                    if (less || more) {
                        return true;
                    }
                }
            }
            return false;
        }
    }

    /** Writes terms as texts. */
    private static final class Pen {
        private static final int MAX_MOVES = 5000;

        private final Terms terms;
        private final Symbols symbols;
        private final int[] lengths = new int[MAX_TERMS];
        private final int[] open = new int[MAX_TERMS + 1];
        private final int[] nextPart = new int[MAX_TERMS + 1];
        final int[] bytes = new int[MAX_TAPE];
        int size = 0;

        Pen(Terms terms, Symbols symbols) {
            this.terms = terms;
            this.symbols = symbols;
        }

        /** How many bytes were written; NONE, and nothing, if these would be too many. */
        int draw(int k) {
            for (int t = 0; t <= k; t++) {
                lengths[t] = Math.min(lengthOf(t), MAX_TAPE + 1);
            }
            if (lengths[k] > MAX_TAPE) {
                return NONE;
            }
            size = 0;
            int depth = 1;
            open[0] = k;
            nextPart[0] = 0;
            for (int i = 0; i < MAX_MOVES && depth > 0; i++) {
                depth = move(depth);
            }
            return size;
        }

        private int lengthOf(int t) {
            int length = headLength(t);
            for (int i = 0; i < terms.parts[t]; i++) {
                length += 1 + lengths[terms.part(t, i)];
            }
            if (terms.kind[t] == PLUS) {
                length += 1 + digits(terms.number[t]);
            }
            return terms.parts[t] > 0 ? length + 2 : length;
        }

        private int headLength(int t) {
            switch (terms.kind[t]) {
                case CONSTANT:
                    return digits(terms.number[t]) + (terms.number[t] < 0 ? 4 : 0);
                case NAME:
                case APPLICATION:
                    return symbols.lengthOfName(terms.number[t]);
                default:
                    return WORD_LENGTH[wordOf(t)];
            }
        }

        private int wordOf(int t) {
            return terms.kind[t] == PLUS && terms.number[t] < 0 ? W_MINUS : KIND_WORD[terms.kind[t]];
        }

        private static int digits(int number) {
            int count = 1;
            int rest = Math.abs(number);
            for (int i = 0; i < MAX_DIGITS && rest > 9; i++) {
                rest /= 10;
                count++;
            }
            return count;
        }

        /** Opens the innermost term, goes on to its next part, or closes it; how many are open then. */
        private int move(int depth) {
            int t = open[depth - 1];
            int i = nextPart[depth - 1];
            if (i == 0) {
                drawHead(t);
            }
            if (i < terms.parts[t] && depth <= MAX_TERMS) {
                put(' ');
                nextPart[depth - 1]++;
                open[depth] = terms.part(t, i);
                nextPart[depth] = 0;
                return depth + 1;
            }
            if (terms.kind[t] == PLUS) {
                put(' ');
                drawNumber(Math.abs(terms.number[t]));
            }
            if (terms.parts[t] > 0) {
                put(')');
            }
            return depth - 1;
        }

        private void drawHead(int t) {
            if (terms.parts[t] > 0) {
                put('(');
            }
            switch (terms.kind[t]) {
                case CONSTANT:
                    drawConstant(terms.number[t]);
                    break;
                case NAME:
                case APPLICATION:
                    for (int i = 0; i < symbols.lengthOfName(terms.number[t]); i++) {
                        put(symbols.nameByte(terms.number[t], i));
                    }
                    break;
                default:
                    drawWord(wordOf(t));
                    break;
            }
        }

        private void drawConstant(int number) {
            if (number >= 0) {
                drawNumber(number);
                return;
            }
            put('(');
            put('-');
            put(' ');
            drawNumber(-number);
            put(')');
        }

        private void drawWord(int w) {
            for (int i = 0; i < WORD_LENGTH[w]; i++) {
                put(WORDS.charAt(WORD_AT[w] + i));
            }
        }

        private void drawNumber(int number) {
            int unit = 1;
            for (int i = 1; i < digits(number); i++) {
                unit *= 10;
            }
            for (int i = 0; i < MAX_DIGITS && unit > 0; i++) {
                put('0' + number / unit % 10);
                unit /= 10;
            }
        }

        private void put(int c) {
            if (size < MAX_TAPE) {
                bytes[size] = c;
                size++;
            }
        }
    }
}
