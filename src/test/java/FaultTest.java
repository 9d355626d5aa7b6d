/** Promises 4 and 5: what commands answer, the eight faults, their order and their places. */
public final class FaultTest {
    private static final String[] NAMES = {
        "(declare-const x Int)", "(declare-const y Int)", "(declare-const p Bool)",
        "(declare-const a (Array Int Int))", "(declare-fun f (Int) Int)", "(declare-fun g (Int Int Int) Bool)",
        "(define-fun two () Int 2)", "(define-fun add ((n Int)) Int (+ n 999990))"};

    public static void main(String[] args) {
        Bench b = new Bench("FaultTest");
        answers(b);
        names(b);
        sorts(b);
        parts(b);
        sums(b);
        definitions(b);
        room(b);
        tokensRead(b);
        deepDefinitions(b);
        nothingChanges(b);
        b.finish();
    }

    private static void fault(Bench b, String text, int fault, int place) {
        b.fails(Bench.court(NAMES), text, -100 - fault, place);
    }

    private static void answers(Bench b) {
        TheoryCourt x = Bench.court(NAMES);
        b.runs(x, "(push)", 1);
        b.runs(x, "(declare-const z Int)", 8);
        b.runs(x, "(assert (< x z))", 0);
        b.runs(x, "(assert true)", 1);
        b.runs(x, "(term z)", 1);
        b.runs(x, "(term (f z))", 4);
        b.runs(x, "(push)", 2);
        b.runs(x, "(pop)", 1);
        b.runs(x, "(pop)", 0);
        b.due("terms after pop", x.count(1), 0);
        b.fails(x, "( pop)", -108, 2);
        b.fails(x, "(term z)", -101, 6);
        b.runs(x, "(declare-fun z () (Array Int Int))", 8);
        b.runs(x, "(term (select z 1))", 2);
    }

    private static void names(Bench b) {
        fault(b, "(term nix)", 1, 6);
        fault(b, "(term (nix (+ p 1)))", 1, 7);
        fault(b, "(term (f (nix 1)))", 1, 10);
        fault(b, "(term (let ((v 1)) (v 1)))", 1, 20);
        fault(b, "(term f)", 4, 6);
        fault(b, "(term add)", 4, 6);
        fault(b, "(term (x nix))", 1, 9);
        fault(b, "(term (x 1))", 4, 7);
        fault(b, "(term (two 1))", 4, 7);
        fault(b, "(declare-const x Bool)", 2, 15);
        fault(b, "(declare-fun two (Bool) Int)", 2, 13);
        fault(b, "(define-fun p ((n Int) (n Int)) Int nix)", 2, 12);
        fault(b, "(define-fun d ((n Int) (m Int) (n Bool)) Int nix)", 2, 32);
        fault(b, "(term (let ((v nix) (v 1)) v))", 1, 15);
        fault(b, "(term (let ((v 1) (v nix)) v))", 2, 19);
        fault(b, "(term (let ((v 1) (w v)) v))", 1, 21);
        TheoryCourt x = Bench.court(NAMES);
        b.runs(x, "(term (let ((x 7)) (f x)))", 1);
        b.due("let hides a symbol", x.term(1, 4), 0);
        b.runs(x, "(term (let ((f 7)) (f f)))", 1);
        b.runs(x, "(term (let ((v 1)) (let ((v 2) (w v)) (let ((u w)) u))))", 2);
        b.due("let binds by what was around", x.term(2, 2), 1);
        b.runs(x, "(define-fun d ((x Bool) (two Bool)) Bool (and x two))", 8);
        b.runs(x, "(term (d true false))", 6);
        b.due("parameters hide symbols", Bench.written(x, 6), "(and true false)");
    }

    private static void sorts(Bench b) {
        fault(b, "(assert x)", 3, 8);
        fault(b, "(assert (+ x 1))", 3, 8);
        fault(b, "(term (ite x x x))", 3, 7);
        fault(b, "(term (ite p x p))", 3, 7);
        fault(b, "(term (select x a))", 3, 7);
        fault(b, "(term (store a p 1))", 3, 7);
        fault(b, "(term (store a 1 a))", 3, 7);
        fault(b, "(term (and p x))", 3, 7);
        fault(b, "(term (not 1))", 3, 7);
        fault(b, "(term (= x p))", 3, 7);
        fault(b, "(term (distinct a a x))", 3, 7);
        fault(b, "(term (< p p))", 3, 7);
        fault(b, "(term (+ x p y))", 3, 7);
        fault(b, "(term (- p))", 3, 7);
        fault(b, "(term (f p))", 3, 7);
        fault(b, "(term (add a))", 3, 7);
        fault(b, "(declare-fun h (Int Bool) Int)", 3, 20);
        fault(b, "(declare-fun h ((Array Int Int)) Int)", 3, 16);
        fault(b, "(declare-fun h (Int) (Array Int Int))", 3, 21);
        fault(b, "(define-fun h ((n Int)) Bool n)", 3, 29);
        fault(b, "(define-fun h () Int (= x 1))", 3, 21);
    }

    private static void parts(Bench b) {
        fault(b, "(term (ite p x))", 4, 7);
        fault(b, "(term (ite 1 2))", 4, 7);
        fault(b, "(term (select a))", 4, 7);
        fault(b, "(term (select a 1 1))", 4, 7);
        fault(b, "(term (store a 1))", 4, 7);
        fault(b, "(term (not p p))", 4, 7);
        fault(b, "(term (xor p))", 4, 7);
        fault(b, "(term (=> p))", 4, 7);
        fault(b, "(term (= p))", 4, 7);
        fault(b, "(term (distinct x))", 4, 7);
        fault(b, "(term (>= x))", 4, 7);
        fault(b, "(term (+ x))", 4, 7);
        fault(b, "(term (- p 1 1))", 4, 7);
        fault(b, "(term (f x x))", 4, 7);
        fault(b, "(term (g x p))", 4, 7);
        fault(b, "(declare-fun h (Int Int Int Int) Int)", 4, 28);
        fault(b, "(declare-fun h (Int Int Int Bool) (Array Int Int))", 4, 28);
        fault(b, "(define-fun h ((i Int) (i Int) (k Int) (l Int)) Int nix)", 4, 39);
        TheoryCourt x = Bench.court(NAMES);
        b.runs(x, "(term (and p))", 1);
        b.runs(x, "(term (or p))", 2);
    }

    private static void sums(Bench b) {
        fault(b, "(term (+ x y))", 5, 7);
        fault(b, "(term (+ x 1 x))", 5, 7);
        fault(b, "(term (- x))", 5, 7);
        fault(b, "(term (- x y))", 5, 7);
        fault(b, "(term (- 1 x))", 5, 7);
        fault(b, "(term (+ x x 999999 999999))", 5, 7);
        fault(b, "(term (+ 999999 1))", 6, 7);
        fault(b, "(term (- (- 999999) 1))", 6, 7);
        fault(b, "(term (+ (+ x 999999) 1))", 6, 7);
        fault(b, "(term (f (add 10)))", 6, 10);
        fault(b, "(term (f (add (+ x 10))))", 6, 10);
        TheoryCourt x = Bench.court(NAMES);
        b.runs(x, "(term (+ 999999 2 (- 3)))", 4);
        b.due("the sum of all counts", x.term(4, 2), 999998);
        x = Bench.court(NAMES);
        String[] texts = {"(+ x 5)", "(- (+ x 5) 5)", "(+ (+ x 5) 3)", "(- x 5)", "(+ 1 x 2 3)", "(+ x 0)", "(- 3 5)",
            "(- 7)", "(+ (- x 5) 999999 5)", "(- x (- 2))"};
        String[] wants = {"(+ x 5)", "x", "(+ x 8)", "(- x 5)", "(+ x 6)", "x", "(- 2)", "(- 7)", "(+ x 999999)", "(+ x 2)"};
        for (int i = 0; i < texts.length; i++) {
            b.due("write of " + texts[i], Bench.written(x, Bench.term(x, texts[i])), wants[i]);
        }
    }

    private static void definitions(Bench b) {
        TheoryCourt x = Bench.court(NAMES);
        b.runs(x, "(define-fun inc ((n Int)) Int (let ((m (+ n 1))) m))", 8);
        b.runs(x, "(define-fun twice ((n Int) (c Bool)) Int (ite c (inc (inc n)) (inc n)))", 9);
        b.due("a define-fun keeps no terms", x.count(1), 0);
        b.due("write", Bench.written(x, Bench.term(x, "(twice (inc 1) p)")), "(ite p 4 3)");
        b.due("write", Bench.written(x, Bench.term(x, "(twice (f x) (= two (inc x)))")),
            "(ite (= 2 (+ x 1)) (+ (f x) 2) (+ (f x) 1))");
        b.fails(x, "(define-fun neg ((n Int)) Int (- n))", -105, 31);
        b.fails(x, "(define-fun both ((n Int) (m Int)) Int (+ n m))", -105, 40);
        b.fails(x, "(define-fun rec ((n Int)) Int (rec n))", -101, 31);
        b.fails(x, "(define-fun big () Int (add (inc 9)))", -106, 24);
        b.fails(x, "(define-fun odd ((n Int)) Int (n 1))", -101, 31);
        b.runs(x, "(define-fun row ((c (Array Int Int)) (i Int)) (Array Int Int) (store c i 0))", 10);
        b.due("write", Bench.written(x, Bench.term(x, "(row a two)")), "(store a 2 0)");
        // The body's names are those of its definition, not of where it is read anew.
        b.due("write", Bench.written(x, Bench.term(x, "(let ((x 3) (n 4) (m 5)) (inc x))")), "4");
        b.runs(x, "(define-fun shade ((k Int)) Int (let ((x k)) (inc x)))", 11);
        b.due("write", Bench.written(x, Bench.term(x, "(let ((k 8)) (shade x))")), "(+ x 1)");
    }

    private static void room(Bench b) {
        TheoryCourt x = new TheoryCourt();
        for (int i = 0; i < 24; i++) {
            b.runs(x, "(declare-const c" + i + " Int)", i);
        }
        b.fails(x, "( declare-const d Int)", -107, 2);
        b.fails(x, "(declare-const c3 Int)", -102, 15);
        b.fails(x, "(define-fun d () Int true)", -103, 21);
        b.fails(x, "(define-fun d () Int 1)", -107, 1);
        b.runs(x, "(term (+ c0 1))", 2);
        for (int i = 1; i < 6; i++) {
            Bench.term(x, "c" + i);
        }
        b.fails(x, "(term (+ c6 c5))", -107, 1);
        b.fails(x, "(term (+ nix c6))", -101, 9);
        b.fails(x, "(term (+ c6 nix))", -107, 1);
        levels(b);
        assertions(b);
        kinds(b);
        terms(b);
    }

    private static void levels(Bench b) {
        TheoryCourt x = new TheoryCourt();
        for (int i = 1; i <= 8; i++) {
            b.runs(x, "(push)", i);
        }
        b.fails(x, " (push)", -107, 2);
        b.due("levels", x.count(3), 8);
    }

    private static void assertions(Bench b) {
        TheoryCourt x = new TheoryCourt();
        for (int i = 0; i < 14; i++) {
            b.runs(x, "(assert true)", i);
        }
        b.fails(x, "(assert false)", -107, 1);
        b.fails(x, "(assert 1)", -103, 8);
        b.due("the fault made no term", x.count(1), 1);
    }

    private static void kinds(Bench b) {
        String[] some = {"(declare-const x Int)", "(declare-const a (Array Int Int))", "(declare-fun r (Int) Bool)"};
        b.fails(Bench.court(some), "(term (and (r 1) (r 2) (r 3) (r 4) (r 5)))", -107, 1);
        b.runs(Bench.court(some), "(term (and (r 1) (r 2) (r 3) (r 4)))", 8);
        b.fails(Bench.court(some), "(term (store (store (store (store a 1 1) 1 2) 1 3) 1 4))", -107, 1);
        b.runs(Bench.court(some), "(term (store (store (store a 1 1) 1 2) 1 3))", 6);
        b.fails(Bench.court(some), "(term (and (= (select a 1) (select a 2)) (= (select a 3) (select a 4))))", -107, 1);
        b.fails(Bench.court(some), "(term (= (ite true 1 2) (ite true 1 3) (ite true 1 4) (ite true 1 5)))", -107, 1);
        b.runs(Bench.court(some), "(term (= (ite true 1 2) (ite true 1 3) (ite true 1 4)))", 8);
        b.fails(Bench.court(some), "(term (= a a a a a))", -107, 1);
        b.runs(Bench.court(some), "(term (= a a a a))", 1);
        b.fails(Bench.court(some), "(term (distinct a a a a))", -107, 1);
        b.fails(Bench.court(some), "(term (and (= a a a) (distinct a a a)))", -107, 1);
        b.runs(Bench.court(some), "(term (and (= 1 1 1 1 1 1 1 1) (< 1 1 1 1 1 1)))", 3);
        b.fails(Bench.court(some), "(term (and (= 1 1 1 1 1 1 1 1) (< 1 1 1 1 1 1 1)))", -107, 1);
        b.fails(Bench.court(some), "(term (distinct 1 2 3 4 5 6))", -107, 1);
        // A define-fun's own reading does not count these.
        b.runs(Bench.court(some), "(define-fun d () Bool (distinct 1 2 3 4 5 6))", 3);
        TheoryCourt x = Bench.court(some);
        b.runs(x, "(define-fun d () Bool (distinct 1 2 3 4 5 6))", 3);
        b.fails(x, "(assert d)", -107, 1);
    }

    private static void terms(Bench b) {
        TheoryCourt x = new TheoryCourt();
        for (int i = 0; i < 62; i++) {
            b.runs(x, "(term " + i + ")", i);
        }
        b.fails(x, "(define-fun d ((i Int) (j Int) (k Int)) Int nix)", -107, 1);
        b.fails(x, "(define-fun d ((i Int) (j Int)) Int nix)", -101, 36);
        b.runs(x, "(define-fun d ((i Int) (j Int)) Int 7)", 0);
        b.runs(x, "(term (+ 61 1 1 0))", 62);
        b.runs(x, "(term 62)", 63);
        b.fails(x, "(term 64)", -107, 1);
        b.fails(x, "(term (+ 0 64 nix))", -107, 1);
        b.runs(x, "(term 62)", 63);
        b.due("64 terms", x.count(1), 64);
    }

    private static void tokensRead(Bench b) {
        TheoryCourt x = new TheoryCourt();
        // A call of d0 reads 5 tokens, of each next one 7 and twice the one before.
        b.runs(x, "(define-fun d0 ((n Int)) Int (+ n 0))", 0);
        for (int i = 1; i <= 8; i++) {
            String d = "(d" + (i - 1);
            b.runs(x, "(define-fun d" + i + " ((n Int)) Int " + d + " " + d + " n)))", i);
        }
        b.fails(x, "(define-fun d9 ((n Int)) Int (d8 (d8 n)))", -107, 1);
        b.fails(x, "(term (d8 (d8 1)))", -107, 1);
        b.runs(x, "(term (d8 1))", 0);
    }

    private static void deepDefinitions(Bench b) {
        TheoryCourt x = new TheoryCourt();
        String before = "1";
        for (int i = 0; i < 20; i++) {
            String text = "(define-fun e" + i + " () Int " + Bench.repeat("(let ((x 1)) ", 17) + before + Bench.repeat(")", 18);
            b.runs(x, text, i);
            before = "e" + i;
        }
        b.runs(x, "(term " + before + ")", 0);
    }

    private static void nothingChanges(Bench b) {
        TheoryCourt x = Bench.court(NAMES);
        b.runs(x, "(assert (< x 3))", 0);
        int terms = x.count(1);
        b.fails(x, "(assert (and (> y 7) (= x nix)))", -101, 26);
        b.fails(x, "(assert (ite p (f 9) (f 8)))", -103, 8);
        b.due("terms", x.count(1), terms);
        b.due("assertions", x.count(2), 1);
        b.due("INT UNITS", x.count(4), 1);
        b.due("COMPARISONS", x.count(9), 1);
        b.runs(x, "(term y)", terms);
    }
}
