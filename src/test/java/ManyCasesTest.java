/**
 * Promises 9 to 13 and 22 for assertions that fill the document's limits, and of which no part alone tells
 * whether they can be true: all of their Bools, equations and comparisons are tied together by xor.
 */
public final class ManyCasesTest {
    private static final long PATIENCE = 120000;
    private static volatile boolean lookedAtAll = false;
    private static final String[] NAMES = {
        "(declare-const x1 Int)", "(declare-const x2 Int)", "(declare-const x3 Int)", "(declare-const x4 Int)",
        "(declare-const x5 Int)", "(declare-const x6 Int)", "(declare-const b1 Bool)", "(declare-const b2 Bool)",
        "(declare-const b3 Bool)", "(declare-const b4 Bool)", "(declare-const A (Array Int Int))",
        "(declare-const B (Array Int Int))", "(declare-const C (Array Int Int))",
        "(declare-const D (Array Int Int))", "(declare-fun s (Int Int Int) Bool)"};
    private static final String TIES = "(xor b1 b2 b3 b4 (= A B) (= A C) (= A D))";
    private static final String ONES = "(xor (= x1 (+ x4 7)) (= x1 (- x5 50)) (= x1 (+ x6 300)) (= x1 7) "
            + "(= x2 (- x4 7)) (= x2 (+ x5 2000)))";
    private static final String OTHERS = "(xor (= x2 (- x6 300)) (= x2 50) (= x3 (+ x4 50)) (= x3 (- x5 2000)) "
            + "(= x3 (+ x6 10000)) (= x3 300))";
    private static final String P = "(define-fun P () Bool (xor " + TIES + " " + ONES + " " + OTHERS + "))";
    private static final String Q = "(define-fun Q () Bool (xor " + OTHERS + " b4 b3 (= A D) (xor (= A C) b2 (= A B) b1) "
            + ONES + "))";
    private static final String R = "(define-fun R () Bool (and (not (or b1 b2 b3 b4 (= A B) (= A C) (= A D))) "
            + "(= x1 (+ x4 7))))";
    private static final String NEVER = "(and P (not P)) (and (not P) P)";

    public static void main(String[] args) throws InterruptedException {
        Bench b = new Bench("ManyCasesTest");
        Thread work = new Thread(() -> lookAtAll(b));
        work.setDaemon(true);
        work.start();
        work.join(PATIENCE);
        b.due("whether all have been looked at in time", lookedAtAll ? 1 : 0, 1);
        b.finish();
    }

    private static void lookAtAll(Bench b) {
        oneWayOpen(b);
        noWayOpen(b);
        twoOrders(b);
        orders(b);
        conditions(b);
        functions(b);
        lookedAtAll = true;
    }

    private static TheoryCourt court(String... texts) {
        TheoryCourt x = Bench.court(NAMES);
        for (String text : texts) {
            if (Bench.run(x, text) < 0) {
                throw new IllegalStateException("not carried out: " + text);
            }
        }
        return x;
    }

    private static void oneWayOpen(Bench b) {
        TheoryCourt x = court(P, R, "(assert (or " + NEVER + " R))");
        b.due("check with one way open", x.check(), 1);
        b.due("sure with one way open", x.sure(), 1);
        b.due("value of x1", x.value(Bench.term(x, "x1")), 0);
        b.due("value of x4", x.value(Bench.term(x, "x4")), -7);
        b.due("value of x6", x.value(Bench.term(x, "x6")), 0);
        b.due("value of b4", x.value(Bench.term(x, "b4")), 0);
        b.due("value of (= A D)", x.value(Bench.term(x, "(= A D)")), 0);
        b.due("value of P", x.value(Bench.term(x, "P")), 1);
        b.due("holds R", x.holds(Bench.term(x, "R")), 1);
        b.due("holds P", x.holds(Bench.term(x, "P")), 2);
        b.due("holds b3", x.holds(Bench.term(x, "b3")), 0);
        b.due("apart x1 x4", x.apart(Bench.term(x, "x1"), Bench.term(x, "x4")), 7);
        b.due("apart x4 x1", x.apart(Bench.term(x, "x4"), Bench.term(x, "x1")), -7);
        b.due("apart x1 x2", x.apart(Bench.term(x, "x1"), Bench.term(x, "x2")), TheoryCourt.FAR);
        b.due("core", x.core(0), TheoryCourt.NONE);
    }

    private static void noWayOpen(Bench b) {
        TheoryCourt x = court(P, "(assert (or b1 b2))", "(assert (or " + NEVER + "))", "(assert (or b3 (= x1 7)))");
        b.due("check with no way open", x.check(), 0);
        b.due("core of the first", x.core(0), 0);
        b.due("core of the second", x.core(1), 1);
        b.due("core of the third", x.core(2), 0);
        b.due("value", x.value(0), TheoryCourt.UNSAT);
        b.due("holds", x.holds(Bench.term(x, "P")), TheoryCourt.UNSAT);
        b.due("apart", x.apart(0, 0), x.term(0, 1) == 0 ? TheoryCourt.UNSAT : -TheoryCourt.FAR);
        b.due("sure", x.sure(), 1);
    }

    private static void twoOrders(Bench b) {
        TheoryCourt x = court(P, Q, "(assert P)", "(assert (or (not b1) (= x1 7)))", "(assert (not Q))");
        b.due("check of one xor in two orders", x.check(), 0);
        b.due("core of P", x.core(0), 1);
        b.due("core between", x.core(1), 0);
        b.due("core of Q", x.core(2), 1);
        TheoryCourt y = court(P, Q, "(assert P)");
        b.due("check of P alone", y.check(), 1);
        b.due("holds Q", y.holds(Bench.term(y, "Q")), 1);
        b.due("holds (= P Q)", y.holds(Bench.term(y, "(= P Q)")), 1);
        b.due("sure of P alone", y.sure(), 1);
    }

    /** Whether x1 is below x4 and 7 more is what (< ..) and, by another text, (>= ..) tell. */
    private static void orders(Bench b) {
        String below = "(xor (< x1 (+ x4 7)) (< x1 (- x5 50)) (< x1 (+ x6 300)) (< x2 (- x4 7)) (< x2 (+ x5 2000)) "
                + "(< x2 (- x6 300)))";
        String above = "(xor (>= x1 (+ x4 7)) (>= x1 (- x5 50)) (>= x1 (+ x6 300)) (>= x2 (- x4 7)) "
                + "(>= x2 (+ x5 2000)) (>= x2 (- x6 300)))";
        TheoryCourt x = court("(assert (xor b1 b2 b3 b4 " + below + " " + above + "))");
        b.due("check of orders", x.check(), 1);
        b.due("holds the xor of Bools", x.holds(Bench.term(x, "(xor b1 b2 b3 b4)")), 1);
        b.due("value of b1", x.value(Bench.term(x, "b1")), 0);
        b.due("value of b4", x.value(Bench.term(x, "b4")), 1);
        b.runs(x, "(assert (not (xor b4 b3 b2 b1)))", 1);
        b.due("check of orders then", x.check(), 0);
        b.due("sure of orders then", x.sure(), 1);
    }

    private static void conditions(Bench b) {
        String t = "(ite b1 (+ x1 50) (- x2 300))";
        String u = "(ite (xor b1 b2) (+ x3 7) (- x4 2000))";
        String v = "(ite b3 " + t + " " + u + ")";
        String all = "(xor (xor b1 b2 b3 b4) (= " + t + " x5) (= " + t + " x6) (= " + u + " (+ x5 9)) (= " + u + " (- x6 70)) "
                + "(xor (= " + v + " (+ x1 1)) (= " + v + " (+ x2 10)) (= " + v + " (+ x3 100)) (= " + v
                + " (+ x4 1000)) (= x5 600) (= x6 6000) (= x1 x4) (= x2 x3)))";
        TheoryCourt x = court("(define-fun W () Bool " + all + ")", "(assert (or (and W (not W)) (and (not W) W) b4))");
        b.due("check of conditions", x.check(), 1);
        b.due("holds b4", x.holds(Bench.term(x, "b4")), 1);
        b.runs(x, "(assert (not b4))", 1);
        b.due("check of conditions without b4", x.check(), 0);
        b.due("core of conditions", x.core(0) + x.core(1), 2);
    }

    /** Two Bools of one function are as their parts are, however these are tied to all else. */
    private static void functions(Bench b) {
        String one = "(s x1 x2 x3)";
        String other = "(s x4 x5 x6)";
        String tie = "(xor b1 b2 (= x1 (+ x5 7)) (= x1 (+ x6 50)) (= x2 (- x4 7)) (= x2 (- x6 300)) "
                + "(xor (= x3 (+ x4 50)) (= x3 (- x5 2000)) (= A B) (= A C) (= A D)))";
        TheoryCourt x = court("(assert " + tie + ")", "(assert (xor " + one + " " + other + "))",
                "(assert (and (<= x1 x4) (<= x2 x5)))", "(assert (and (>= x1 x4) (>= x2 x5)))");
        b.due("check of a function", x.check(), 1);
        b.due("sure of a function", x.sure(), 1);
        b.runs(x, "(push)", 1);
        b.runs(x, "(assert (= x6 x3))", 4);
        b.due("check of a function with the same parts", x.check(), 0);
        b.due("core of the tie", x.core(0), 0);
        b.due("core of the two", x.core(1), 1);
        b.due("core of the parts", x.core(2) + x.core(3) + x.core(4), 3);
        b.due("sure of a function with the same parts", x.sure(), 1);
        b.runs(x, "(pop)", 0);
        b.due("check of a function behind pop", x.check(), 1);
    }
}
