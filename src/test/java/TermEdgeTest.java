/** The document's part 2, TERMS, but for its faults: symbols, sharing, kinds, names, meaning and levels, sentence by sentence. */
public final class TermEdgeTest {
    private static final String[] NAMES = {
        "(declare-const x Int)", "(declare-const y Int)", "(declare-const p Bool)", "(declare-const q Bool)",
        "(declare-const a (Array Int Int))", "(declare-const b (Array Int Int))", "(declare-fun f (Int) Int)",
        "(declare-fun h (Int) Int)", "(declare-fun r (Int Int) Bool)", "(define-fun two () Int 2)",
        "(define-fun inc ((n Int)) Int (+ n 1))", "(define-fun sel ((t (Array Int Int)) (i Int)) Int (select t i))"};

    public static void main(String[] args) {
        Bench b = new Bench("TermEdgeTest");
        sortsOfSymbols(b);
        numbersOfSymbols(b);
        numbersOfTerms(b);
        sameTerms(b);
        otherTerms(b);
        kinds(b);
        sums(b);
        names(b);
        definedNames(b);
        lets(b);
        bools(b);
        chains(b);
        wholeNumbers(b);
        rows(b);
        functions(b);
        counted(b);
        levels(b);
        popOfSymbols(b);
        popOfTerms(b);
        popOfAssertions(b);
        b.finish();
    }

    /** SORTS of what they take (0 .. 3 of Int; for define-fun 0 .. 3 of any), and one that they are. */
    private static void sortsOfSymbols(Bench b) {
        String[] sorts = {"Int", "Bool", "(Array Int Int)"};
        for (int i = 0; i < 3; i++) {
            told(b, "(declare-const n " + sorts[i] + ")", 0, i, 0);
            told(b, "(declare-fun n () " + sorts[i] + ")", 0, i, 0);
        }
        for (int i = 0; i < 2; i++) {
            told(b, "(declare-fun n (Int) " + sorts[i] + ")", 1, i, 0);
            told(b, "(declare-fun n (Int Int) " + sorts[i] + ")", 2, i, 0);
            told(b, "(declare-fun n (Int Int Int) " + sorts[i] + ")", 3, i, 0);
        }
        told(b, "(define-fun n () Int 1)", 0, 0, 1);
        told(b, "(define-fun n ((u (Array Int Int))) (Array Int Int) u)", 1, 2, 1);
        told(b, "(define-fun n ((u Bool) (v Int)) Bool u)", 2, 1, 1);
        told(b, "(define-fun n ((u Bool) (v Int) (w (Array Int Int))) Int v)", 3, 0, 1);
    }

    private static void told(Bench b, String text, int takes, int sort, int defined) {
        TheoryCourt x = new TheoryCourt();
        b.runs(x, text, 0);
        b.due("takes: " + text, x.symbol(0, -2), takes);
        b.due("sort: " + text, x.symbol(0, -3), sort);
        b.due("defined: " + text, x.symbol(0, -4), defined);
    }

    /** They are numbered as they come: declared and defined ones in one row. */
    private static void numbersOfSymbols(Bench b) {
        TheoryCourt x = new TheoryCourt();
        b.runs(x, "(declare-const x Int)", 0);
        b.runs(x, "(define-fun two () Int 2)", 1);
        b.fails(x, "(declare-const x Int)", -102, 15);
        b.runs(x, "(declare-fun f (Int) Int)", 2);
        b.runs(x, "(term (f x))", 1);
        b.due("symbol of x", x.term(0, 2), 0);
        b.due("symbol of f", x.term(1, 2), 2);
    }

    /** Numbered as they are made, from 0; parts before what they are parts of, from the left to the right. */
    private static void numbersOfTerms(Bench b) {
        String[] wants = {"x", "1", "(< x 1)", "y", "(f y)", "a", "(select a x)", "(+ (select a x) 1)"};
        TheoryCourt y = Bench.worn(NAMES);
        b.runs(y, "(term (ite (< x 1) (f y) (inc (select a x))))", 8);
        for (int i = 0; i < wants.length; i++) {
            b.due("term " + i, Bench.written(y, i), wants[i]);
        }
        TheoryCourt z = Bench.worn(NAMES);
        b.runs(z, "(term (let ((u y) (v x)) (r v u)))", 2);
        b.due("let's terms are made in its order", Bench.written(z, 0), "y");
        b.runs(z, "(term (- 4))", 4);
        b.due("the NUMERAL is a term, too", Bench.written(z, 3), "4");
    }

    private static int share(TheoryCourt x, String one, String other) {
        return Bench.term(x, one) == Bench.term(x, other) ? 1 : 0;
    }

    /** A term that is the same as one that there is (its KIND, number, parts) is that one. */
    private static void sameTerms(Bench b) {
        String[][] pairs = {{"x", "x"}, {"(+ x 1)", "(+ 1 x)"}, {"(- x 1)", "(+ x (- 1))"}, {"(- 5)", "(- 0 5)"}, {"(+ x 0)", "x"},
            {"(let ((u x)) u)", "x"}, {"two", "2"}, {"(inc x)", "(+ x 1)"}, {"(inc two)", "3"}, {"(sel a x)", "(select a x)"},
            {"(and p q)", "(let ((u p) (v q)) (and u v))"}, {"(f (+ x 2))", "(f (inc (inc x)))"}, {"true", "true"}, {"0", "(- 3 3)"},
            {"(store a x 1)", "(store a (- (+ x 1) 1) 1)"}};
        for (String[] pair : pairs) {
            b.due(pair[0] + " is " + pair[1], share(Bench.worn(NAMES), pair[0], pair[1]), 1);
        }
    }

    private static void otherTerms(Bench b) {
        String[][] pairs = {{"0", "x"}, {"1", "y"}, {"x", "y"}, {"(= x y)", "(= y x)"}, {"(and p)", "(or p)"}, {"(and p)", "(and p p)"},
            {"p", "(and p)"}, {"(< x y)", "(> y x)"}, {"(< x y)", "(<= x y)"}, {"(+ x 1)", "(+ x 2)"}, {"(+ x 1)", "(+ y 1)"},
            {"(+ x 1)", "(- x 1)"}, {"1", "(- 1)"}, {"(f x)", "(h x)"}, {"(f x)", "(f y)"}, {"true", "false"}, {"a", "b"},
            {"(select a x)", "(select b x)"}, {"(select a x)", "(select a y)"}, {"(store a x 1)", "(store a x 2)"},
            {"(ite p x y)", "(ite p y x)"}, {"(and p q)", "(and q p)"}, {"(= x x)", "true"}, {"(not (not p))", "p"}};
        for (String[] pair : pairs) {
            b.due(pair[0] + " is not " + pair[1], share(Bench.worn(NAMES), pair[0], pair[1]), 0);
        }
    }

    /** KINDS, with their parts; PLUS is of an Int that is neither 0 nor 5. */
    private static void kinds(Bench b) {
        String[] texts = {"0", "x", "(f x)", "(select a x)", "(ite p x y)", "(+ x 1)", "(store a x y)", "true", "false", "(not p)",
            "(and p)", "(or p)", "(xor p q)", "(=> p q)", "(= x y)", "(distinct x y)", "(< x y)", "(<= x y)", "(> x y)", "(>= x y)"};
        for (int kind = 0; kind < texts.length; kind++) {
            TheoryCourt x = Bench.worn(NAMES);
            b.due("kind of " + texts[kind], x.term(Bench.term(x, texts[kind]), 0), kind);
        }
        String[] base = {"x", "(f x)", "(select a x)", "(ite p x y)"};
        for (String text : base) {
            TheoryCourt x = Bench.worn(NAMES);
            int t = Bench.term(x, "(+ (- (+ " + text + " 5) 2) 1)");
            b.due("kind over " + text, x.term(t, 0), 5);
            b.due("number over " + text, x.term(t, 2), 4);
            b.due("part over " + text, x.term(t, 4), Bench.term(x, text));
            b.due("just one part", x.term(t, 5), -1);
        }
        TheoryCourt x = Bench.worn(NAMES);
        b.due("of a CONSTANT it is one", x.term(Bench.term(x, "(+ 4 5)"), 0), 0);
        b.due("a NAME of declare-fun with none", Bench.run(x, "(declare-fun k () Int)"), 12);
        b.due("is of kind 1", x.term(Bench.term(x, "k"), 0), 1);
    }

    /** + (2 or more), - of one, - of two; t itself, or its part, for 0. */
    private static void sums(Bench b) {
        String[][] sums = {{"(+ 1 2)", "3"}, {"(+ x 1)", "(+ x 1)"}, {"(+ 1 2 x 3 4 5 6 7)", "(+ x 28)"}, {"(- 0)", "0"}, {"(- 1)", "(- 1)"},
            {"(- (- 1))", "1"}, {"(- 7 7)", "0"}, {"(- 7 9)", "(- 2)"}, {"(- x 0)", "x"}, {"(+ x 0)", "x"}, {"(+ 0 0 x)", "x"},
            {"(+ x 3 (- 3))", "x"}, {"(- (+ x 3) 3)", "x"}, {"(+ (- x 3) 3)", "x"}, {"(- (- x 3) (- 3))", "x"}, {"(+ (+ x 3) (- 4))", "(- x 1)"},
            {"(+ (+ x 3) 0)", "(+ x 3)"}, {"(- (f (+ x 1)) 1)", "(- (f (+ x 1)) 1)"}, {"(+ 999999 x)", "(+ x 999999)"}, {"(- 999999)", "(- 999999)"}};
        for (String[] sum : sums) {
            TheoryCourt x = Bench.worn(NAMES);
            b.due("write of " + sum[0], Bench.written(x, Bench.term(x, sum[0])), sum[1]);
        }
    }

    private static void reads(Bench b, TheoryCourt x, String text, String want) {
        b.due("write of " + text, Bench.written(x, Bench.term(x, text)), want);
    }

    /** A NAME is the term that let or a define-fun's parameter gave it (the innermost), else its symbol's. */
    private static void names(Bench b) {
        TheoryCourt x = Bench.worn(NAMES);
        reads(b, x, "x", "x");
        reads(b, x, "(let ((x y)) x)", "y");
        reads(b, x, "(let ((x y)) (let ((x 5)) x))", "5");
        reads(b, x, "(let ((x 5)) (+ (let ((x 7)) x) x))", "12");
        reads(b, x, "(let ((x 5)) (+ x (let ((x 7)) x)))", "12");
        b.runs(x, "(define-fun dd ((x Int) (y Int)) Int (let ((x (+ x 1))) (ite (< x y) x 0)))", 12);
        reads(b, x, "(dd 1 3)", "(ite (< 2 3) 2 0)");
        reads(b, x, "(dd y x)", "(ite (< (+ y 1) x) (+ y 1) 0)");
        reads(b, x, "(let ((x 8)) (dd x x))", "(ite (< 9 8) 9 0)");
        reads(b, x, "(let ((two 8)) (inc two))", "9");
    }

    /** Of define-fun its term, read anew with its parameters standing for these; its own names stay what they were. */
    private static void definedNames(Bench b) {
        TheoryCourt x = Bench.worn(NAMES);
        b.runs(x, "(define-fun useX ((n Int)) Bool (< x n))", 12);
        reads(b, x, "(let ((x 3) (n 4)) (useX x))", "(< x 3)");
        reads(b, x, "(useX (inc (inc (inc 0))))", "(< x 3)");
        b.runs(x, "(define-fun both ((c Bool) (d Bool)) Bool (and c d c))", 13);
        reads(b, x, "(both (both p q) (useX two))", "(and (and p q p) (< x 2) (and p q p))");
        b.runs(x, "(define-fun swap ((u Int) (v Int)) Bool (r v u))", 14);
        reads(b, x, "(swap 1 2)", "(r 2 1)");
        b.runs(x, "(define-fun swapped ((v Int) (u Int)) Bool (swap v u))", 15);
        reads(b, x, "(swapped 1 2)", "(r 2 1)");
        reads(b, x, "(let ((u 5) (v 6)) (swapped v u))", "(r 5 6)");
        // What a define-fun takes is still the same behind another one within it.
        TheoryCourt y = Bench.worn(NAMES);
        b.runs(y, "(define-fun most ((u Int) (v Int)) Int (ite (< (inc u) (inc v)) v u))", 12);
        reads(b, y, "(r 9 (most 3 4))", "(r 9 (ite (< 4 5) 4 3))");
        reads(b, y, "(let ((w 1)) (r (most 7 (inc w)) w))", "(r (ite (< 8 3) 2 7) 1)");
    }

    /** let: all its terms are made (by what was around), then stand for their NAMES in its last term. */
    private static void lets(Bench b) {
        TheoryCourt x = Bench.worn(NAMES);
        reads(b, x, "(let ((x y) (y x)) (< x y))", "(< y x)");
        reads(b, x, "(let ((u 1)) (let ((u (+ u 1)) (v u)) (- u v)))", "1");
        reads(b, x, "(let ((u (let ((v 2)) v))) u)", "2");
        reads(b, x, "(let ((u p) (v a) (w 1)) (ite u (select v w) w))", "(ite p (select a 1) 1)");
        TheoryCourt y = Bench.worn(NAMES);
        b.runs(y, "(term (let ((u (f 8))) 1))", 2);
        b.due("its terms are made, whether they are used or not", y.count(1), 3);
    }

    private static void holds(Bench b, String text, int want) {
        TheoryCourt x = Bench.worn(NAMES);
        b.due("holds of " + text, x.holds(Bench.term(x, text)), want);
    }

    /** AND, OR of all; XOR an odd number; IMPLIES the last one, if all before. */
    private static void bools(Bench b) {
        for (int row = 0; row < 8; row++) {
            String c = row / 4 == 1 ? "true" : "false";
            String d = row / 2 % 2 == 1 ? "true" : "false";
            String e = row % 2 == 1 ? "true" : "false";
            String three = " " + c + " " + d + " " + e + ")";
            holds(b, "(and" + three, row == 7 ? 1 : 0);
            holds(b, "(or" + three, row != 0 ? 1 : 0);
            holds(b, "(xor" + three, Integer.bitCount(row) % 2);
            holds(b, "(=>" + three, row == 6 ? 0 : 1);
            holds(b, "(=" + three, row == 0 || row == 7 ? 1 : 0);
            holds(b, "(distinct" + three, 0);
            holds(b, "(ite" + three, row / 4 == 1 ? row / 2 % 2 : row % 2);
        }
        holds(b, "(and true)", 1);
        holds(b, "(and false)", 0);
        holds(b, "(or false)", 0);
        holds(b, "(or p)", 2);
        holds(b, "(not false)", 1);
        holds(b, "(xor true true)", 0);
        holds(b, "(xor p p)", 0);
        holds(b, "(xor p p p)", 2);
        holds(b, "(xor true true true true true true true true)", 0);
        holds(b, "(xor true true true true true true true)", 1);
        holds(b, "(distinct true false)", 1);
        holds(b, "(distinct p (not p))", 1);
        holds(b, "(distinct p q)", 2);
        holds(b, "(=> p p)", 1);
    }

    /** EQUAL: all alike, DISTINCT: no two; LESS .. AT LEAST: each part to the next one. */
    private static void chains(Bench b) {
        int[][] rows = {{1, 1, 1}, {1, 1, 2}, {1, 2, 1}, {2, 1, 1}, {1, 2, 2}, {2, 1, 2}, {2, 2, 1}, {1, 2, 3}, {1, 3, 2}, {3, 2, 1}};
        String[] ops = {"=", "distinct", "<", "<=", ">", ">="};
        for (int[] row : rows) {
            boolean[] wants = {row[0] == row[1] && row[1] == row[2],
                row[0] != row[1] && row[1] != row[2] && row[0] != row[2], row[0] < row[1] && row[1] < row[2],
                row[0] <= row[1] && row[1] <= row[2], row[0] > row[1] && row[1] > row[2], row[0] >= row[1] && row[1] >= row[2]};
            for (int i = 0; i < ops.length; i++) {
                holds(b, "(" + ops[i] + " " + row[0] + " " + row[1] + " " + row[2] + ")", wants[i] ? 1 : 0);
            }
        }
        holds(b, "(distinct 1 2 3 4 1)", 0);
        holds(b, "(< x y x)", 0);
        holds(b, "(<= x y x)", 2);
        holds(b, "(= x x)", 1);
        holds(b, "(distinct x x)", 0);
    }

    /** As usual over all whole numbers. */
    private static void wholeNumbers(Bench b) {
        holds(b, "(< x (+ x 1))", 1);
        holds(b, "(= x (+ x 1))", 0);
        holds(b, "(< (- x 999999) (+ x 999999))", 1);
        holds(b, "(< x y (+ x 1))", 0);
        holds(b, "(< x y (+ x 2))", 2);
        holds(b, "(< 999999 x)", 2);
        holds(b, "(< x (- 999999))", 2);
        holds(b, "(or (< x y) (= x y) (> x y))", 1);
        holds(b, "(or (< x 5) (> x 5))", 2);
        holds(b, "(< (- 1) 0)", 1);
        TheoryCourt x = Bench.worn(NAMES);
        Bench.run(x, "(assert (> (- x 999999) 999999))");
        b.due("beyond what a NUMERAL can tell", x.value(0), 1999999);
    }

    /** Arrays are rows, the same if they have the same at all places; SELECT, STORE. */
    private static void rows(Bench b) {
        holds(b, "(= a a)", 1);
        holds(b, "(= a b)", 2);
        holds(b, "(= a (store a x (select a x)))", 1);
        holds(b, "(= (store a 1 2) (store a 1 3))", 0);
        holds(b, "(= (store a 1 2) a)", 2);
        holds(b, "(= (select (store a x y) x) y)", 1);
        holds(b, "(= (select (store a 1 y) 2) (select a 2))", 1);
        holds(b, "(= (select (store a x 5) y) (select a y))", 2);
        holds(b, "(= (select (store a (- 1) 5) 1) 5)", 2);
        holds(b, "(= (store (store a x 1) x 2) (store a x 2))", 1);
        holds(b, "(=> (= a b) (= (select a x) (select b x)))", 1);
        holds(b, "(=> (= (select a x) (select b x)) (= a b))", 2);
        holds(b, "(= (select (ite p a b) x) (ite p (select a x) (select b x)))", 1);
    }

    private static void functions(Bench b) {
        holds(b, "(=> (= x y) (= (f x) (f y)))", 1);
        holds(b, "(=> (= (f x) (f y)) (= x y))", 2);
        holds(b, "(= (f x) (h x))", 2);
        holds(b, "(= (f (- (+ x 1) 1)) (f x))", 1);
        holds(b, "(=> (= x y) (= (r x y) (r y x)))", 1);
        holds(b, "(= (r x y) (r y x))", 2);
    }

    /** INT UNITS are Int terms of the kinds 1, 2, 3; BOOL UNITS Bool terms of the kinds 1, 2. */
    private static void counted(Bench b) {
        String[] texts = {"x", "(f x)", "(select a x)", "p", "(r x x)", "a", "7", "(+ x 7)", "(ite p x 7)", "(ite p q q)", "(store a 7 7)",
            "(= a b)", "(= x 7)", "(= p q)", "(distinct a b a)", "(distinct x 7 7)", "(not p)", "true"};
        // By text: INT UNITS, BOOL UNITS, ARRAYS, PLACES, EQUATIONS, COMPARISONS.
        String[] wants = {"1 0 0 0 0 0", "2 0 0 0 0 0", "2 0 1 1 0 0", "0 1 0 0 0 0", "1 1 0 0 0 0", "0 0 1 0 0 0", "0 0 0 0 0 0",
            "1 0 0 0 0 0", "1 1 0 0 0 0", "0 2 0 0 0 0", "0 0 2 1 0 0", "0 0 2 0 1 0", "1 0 0 0 0 1", "0 2 0 0 0 0", "0 0 2 0 3 0",
            "1 0 0 0 0 3", "0 1 0 0 0 0", "0 0 0 0 0 0"};
        for (int i = 0; i < texts.length; i++) {
            TheoryCourt x = Bench.worn(NAMES);
            Bench.term(x, texts[i]);
            StringBuilder got = new StringBuilder();
            for (int what = 4; what <= 9; what++) {
                got.append(what > 4 ? " " : "").append(x.count(what));
            }
            b.due("counts of " + texts[i], got.toString(), wants[i]);
        }
    }

    /** push: a new level; pop: what came since its push goes, level by level. */
    private static void levels(Bench b) {
        TheoryCourt x = new TheoryCourt();
        String[] seen = new String[9];
        for (int i = 0; i < 8; i++) {
            seen[i] = Bench.counts(x);
            b.runs(x, "(push)", i + 1);
            b.runs(x, "(declare-const p" + i + " Int)", i);
            b.due("assertion", Bench.run(x, "(assert (= " + i + " " + (i + 1) + "))"), i);
        }
        for (int i = 7; i >= 0; i--) {
            b.runs(x, "(pop)", i);
            b.due("counts after pop to " + i, Bench.counts(x), seen[i]);
        }
        b.due("nothing stays of a new object's levels", Bench.seen(x), Bench.seen(new TheoryCourt()));
    }

    private static void popOfSymbols(Bench b) {
        TheoryCourt x = Bench.court("(declare-const k Int)", "(push)", "(declare-const n Int)", "(define-fun d () Int n)");
        b.runs(x, "(term d)", 0);
        b.runs(x, "(pop)", 0);
        b.fails(x, "(term n)", -101, 6);
        b.fails(x, "(term d)", -101, 6);
        b.runs(x, "(declare-fun d (Int) Bool)", 1);
        b.due("takes", x.symbol(1, -2), 1);
        b.due("is not defined", x.symbol(1, -4), 0);
        b.due("sort", x.symbol(1, -3), 1);
        b.runs(x, "(define-fun n ((k Bool)) Bool k)", 2);
        b.runs(x, "(term (n (d k)))", 1);
        b.due("number of the symbol that came anew", x.term(1, 2), 1);
        TheoryCourt y = Bench.court("(push)", "(define-fun d ((u Int)) Int 7)", "(define-fun e () Int 8)", "(pop)");
        b.runs(y, "(declare-fun g (Int) Bool)", 0);
        b.runs(y, "(declare-const h Bool)", 1);
        b.due("a declared one is not defined", y.symbol(0, -4), 0);
        b.due("nor is the other", y.symbol(1, -4), 0);
        reads(b, y, "(and (g 5) h)", "(and (g 5) h)");
    }

    /** Terms stay till their level goes, and are found as long as they stay. */
    private static void popOfTerms(Bench b) {
        TheoryCourt x = Bench.worn(NAMES);
        b.runs(x, "(term (f x))", 1);
        b.runs(x, "(push)", 1);
        b.runs(x, "(term (f (f x)))", 2);
        b.runs(x, "(term (f x))", 1);
        b.runs(x, "(push)", 2);
        b.runs(x, "(term (f (f x)))", 2);
        b.runs(x, "(term 9)", 3);
        b.runs(x, "(pop)", 1);
        b.runs(x, "(term (f (f x)))", 2);
        b.due("what the upper level made is gone", x.term(3, 0), -1);
        b.runs(x, "(pop)", 0);
        b.due("term 2", x.term(2, 0), -1);
        b.runs(x, "(term (h x))", 2);
        b.due("another term has its number", x.term(2, 2), 7);
        b.runs(x, "(term (f (f x)))", 3);
    }

    private static void popOfAssertions(Bench b) {
        TheoryCourt x = Bench.worn(NAMES);
        b.runs(x, "(assert (< x 3))", 0);
        b.runs(x, "(push)", 1);
        b.runs(x, "(assert (> x 3))", 1);
        b.due("check", x.check(), 0);
        b.runs(x, "(push)", 2);
        b.runs(x, "(assert true)", 2);
        b.runs(x, "(pop)", 1);
        b.due("assertions", x.count(2), 2);
        b.due("check", x.check(), 0);
        b.runs(x, "(pop)", 0);
        b.due("assertions", x.count(2), 1);
        b.due("the one that stays", x.asserted(0), 2);
        b.due("check", x.check(), 1);
        b.due("value", x.value(0), 0);
        b.runs(x, "(assert (> x 1))", 1);
        b.due("value", x.value(0), 2);
    }
}
