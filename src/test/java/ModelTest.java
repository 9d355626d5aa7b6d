/** Promises 9 to 13 and 22: check, value, core, holds, apart, sure. */
public final class ModelTest {
    private static final int UNSAT = TheoryCourt.UNSAT;
    private static final long FAR = TheoryCourt.FAR;
    private static final String[] NAMES = {
        "(declare-const x Int)", "(declare-const y Int)", "(declare-const z Int)", "(declare-const p Bool)",
        "(declare-const q Bool)", "(declare-const a (Array Int Int))", "(declare-const b (Array Int Int))",
        "(declare-const c (Array Int Int))", "(declare-fun f (Int) Int)", "(declare-fun g (Int Int) Int)",
        "(declare-fun r (Int) Bool)"};

    public static void main(String[] args) {
        Bench b = new Bench("ModelTest");
        checks(b);
        numbers(b);
        bools(b);
        functions(b);
        arrays(b);
        equations(b);
        wrongTerms(b);
        cores(b);
        holding(b);
        gaps(b);
        levels(b);
        b.finish();
    }

    private static TheoryCourt asserting(String... texts) {
        TheoryCourt x = Bench.court(NAMES);
        for (String text : texts) {
            if (Bench.run(x, "(assert " + text + ")") < 0) {
                throw new IllegalStateException(text);
            }
        }
        return x;
    }

    private static void sat(Bench b, int want, String... texts) {
        TheoryCourt x = asserting(texts);
        String what = String.join(" ", texts);
        b.due("check of " + what, x.check(), want);
        b.due("sure of " + what, x.sure(), 1);
    }

    private static void checks(Bench b) {
        sat(b, 1);
        sat(b, 1, "true");
        sat(b, 0, "false");
        sat(b, 0, "(< x x)");
        sat(b, 1, "(< x y z)");
        sat(b, 0, "(< x y z)", "(< z x)");
        sat(b, 0, "(< x y (+ x 1))");
        sat(b, 1, "(< x y (+ x 2))");
        sat(b, 0, "(distinct x y z)", "(<= 0 x 1)", "(<= 0 y 1)", "(<= 0 z 1)");
        sat(b, 0, "(distinct p q (not p))");
        sat(b, 0, "(xor p p)");
        sat(b, 1, "(xor p p p)", "p");
        sat(b, 0, "(xor p p p)", "(not p)");
        sat(b, 0, "(not (=> p q p))");
        sat(b, 1, "(not (=> p q))");
        sat(b, 0, "(= p q)", "(distinct p q)");
        sat(b, 0, "(= (f x) 1)", "(= (f y) 2)", "(<= x y x)");
        sat(b, 0, "(r x)", "(not (r y))", "(= x y)");
        sat(b, 1, "(r x)", "(not (r y))", "(= x (+ y 1))");
        sat(b, 0, "(distinct (g x y) (g y x))", "(= x y)");
        sat(b, 0, "(distinct (select (store a x 1) x) 1)");
        sat(b, 0, "(distinct (select (store a x 1) y) (select a y))", "(distinct x y)");
        sat(b, 0, "(= a b)", "(distinct (select a x) (select b x))");
        sat(b, 0, "(= (store a x 1) (store b x 1))", "(distinct (select a y) (select b y))", "(distinct x y)");
        sat(b, 1, "(= (store a x 1) (store b x 1))", "(distinct a b)");
        sat(b, 0, "(= (store a x 1) (store b x 1))", "(distinct a b)", "(= (select a x) (select b x))");
        sat(b, 0, "(distinct a (store a x (select a x)))");
        sat(b, 0, "(= (store a x 1) (store b y 2))", "(= x y)");
        sat(b, 1, "(distinct a b c)");
        sat(b, 0, "(distinct a b)", "(distinct a c)", "(= a (ite p b c))");
        sat(b, 0, "(distinct (select (ite p a b) x) 3)", "(= (select a x) 3)", "(= (select b x) 3)");
        sat(b, 0, "(= a a b)", "(distinct b a)");
        sat(b, 0, "(= (ite (< x 3) y z) 9)", "(< y 9)", "(> z 9)");
        sat(b, 0, "(distinct (f (ite p x y)) (ite p (f x) (f y)))");
    }

    private static void model(Bench b, TheoryCourt x, String text, int want) {
        b.due("value of " + text, x.value(Bench.term(x, text)), want);
    }

    private static void numbers(Bench b) {
        TheoryCourt x = asserting("(distinct x y z)", "(distinct z 0)");
        model(b, x, "x", 0);
        model(b, x, "y", 1);
        model(b, x, "z", -1);
        x = asserting("(< x (- 4))", "(> y 7)");
        model(b, x, "x", -5);
        model(b, x, "y", 8);
        model(b, x, "(- x 3)", -8);
        model(b, x, "(ite (< x y) (+ y 1) z)", 9);
        x = asserting("(or (= x (- 2)) (= x 2))");
        model(b, x, "x", 2);
        x = asserting("(or (= x (- 2)) (= x 3))");
        model(b, x, "x", -2);
        // The first unit counts most: it is y here.
        x = asserting("(> y (+ x 10))");
        model(b, x, "y", 0);
        model(b, x, "x", -11);
        x = asserting("(> (- x 999999) (+ y 999999))", "(> (- y 999999) (+ z 999999))");
        model(b, x, "x", 0);
        model(b, x, "z", -3999998);
    }

    private static void bools(Bench b) {
        TheoryCourt x = asserting("(or p q)");
        model(b, x, "p", 0);
        model(b, x, "q", 1);
        model(b, x, "(xor p q)", 1);
        // A Bool that comes before an Int keeps it from 0.
        x = asserting("(=> (not p) (= x 5))");
        model(b, x, "p", 0);
        model(b, x, "x", 5);
        x = asserting("(or (= x 5) p)");
        model(b, x, "x", 0);
        model(b, x, "p", 1);
        x = asserting("(or (r 1) (r 2))");
        model(b, x, "(r 1)", 0);
        model(b, x, "(r 2)", 1);
        model(b, x, "(r x)", 0);
    }

    private static void functions(Bench b) {
        TheoryCourt x = asserting("(= (f x) 5)", "(distinct (f y) 5)");
        model(b, x, "x", 0);
        model(b, x, "(f x)", 5);
        model(b, x, "y", 1);
        model(b, x, "(f y)", 0);
        model(b, x, "(f 0)", 5);
        model(b, x, "(f 1)", 0);
        x = asserting("(= (f (f x)) (+ x 1))");
        model(b, x, "x", 0);
        model(b, x, "(f x)", 1);
        model(b, x, "(f (f x))", 1);
    }

    private static void arrays(Bench b) {
        TheoryCourt x = asserting("(> (select (store a x 9) y) (select a x))", "(= (select a x) 9)");
        model(b, x, "y", 1);
        model(b, x, "x", 0);
        model(b, x, "(select (store a x 9) y)", 10);
        model(b, x, "(select a y)", 10);
        b.due("value of an array", x.value(Bench.term(x, "a")), -1);
    }

    private static void equations(Bench b) {
        TheoryCourt x = asserting("(or (= a b) (= b c))");
        model(b, x, "(= a b)", 0);
        model(b, x, "(= b c)", 1);
        x = asserting("(= (select a 1) (select b 1))");
        model(b, x, "(= a b)", 0);
        model(b, x, "(distinct a b)", 1);
        model(b, x, "(= a a)", 1);
        // Units come before equations.
        x = asserting("(or (= a b) (> x 0))");
        model(b, x, "x", 0);
        model(b, x, "(= a b)", 1);
        x = asserting("(not (distinct a b c))");
        model(b, x, "(distinct a b c)", 0);
        x = asserting("(= a (store a x 3))");
        model(b, x, "(select a x)", 3);
    }

    private static void wrongTerms(Bench b) {
        TheoryCourt x = asserting("(= a b)", "false", "(= x 1)");
        int a = x.term(Bench.term(x, "(= a b)"), 4);
        int one = Bench.term(x, "1");
        int no = Bench.term(x, "false");
        b.due("value without a model", x.value(one), UNSAT);
        b.due("value of an array", x.value(a), -1);
        b.due("holds without a model", x.holds(no), UNSAT);
        b.due("holds of an Int", x.holds(one), -1);
        b.due("holds of an array", x.holds(a), -1);
        b.due("apart without a model", x.apart(one, one), UNSAT);
        b.due("apart of a Bool", x.apart(no, one), -FAR);
        b.due("apart of an array", x.apart(one, a), -FAR);
        int[] none = {-1, 64, x.count(1), Integer.MIN_VALUE, Integer.MAX_VALUE};
        for (int k : none) {
            b.due("value(" + k + ")", x.value(k), -1);
            b.due("holds(" + k + ")", x.holds(k), -1);
            b.due("core(" + k + ")", x.core(k), -1);
            b.due("apart(" + k + ", 1)", x.apart(k, one), -FAR);
            b.due("apart(1, " + k + ")", x.apart(one, k), -FAR);
        }
    }

    private static void core(Bench b, String want, String... texts) {
        TheoryCourt x = asserting(texts);
        for (int i = 0; i < texts.length; i++) {
            b.due("core(" + i + ") of " + String.join(" ", texts), x.core(i), want.charAt(i) - '0');
        }
        b.due("core behind the last", x.core(texts.length), -1);
        b.due("core(-1)", x.core(-1), -1);
        b.due("sure", x.sure(), 1);
    }

    private static void cores(Bench b) {
        core(b, "1", "false");
        core(b, "10", "false", "false");
        core(b, "110", "(< x y)", "(< y x)", "(< x y x)");
        core(b, "0110", "(< x z)", "(< x y)", "(< y x)", "p");
        core(b, "1011", "(= x 1)", "p", "(= y 2)", "(= x y)");
        core(b, "11000", "p", "(not p)", "q", "(not q)", "(and q (not q))");
        TheoryCourt x = asserting("p");
        b.due("core with a model", x.core(0), -1);
    }

    private static void hold(Bench b, TheoryCourt x, String text, int want) {
        b.due("holds of " + text, x.holds(Bench.term(x, text)), want);
    }

    private static void holding(Bench b) {
        TheoryCourt x = asserting("(< x y)", "(or p q)", "(= (f x) 3)");
        hold(b, x, "(< x y)", 1);
        hold(b, x, "(> x y)", 0);
        hold(b, x, "(< x 3)", 2);
        hold(b, x, "p", 2);
        hold(b, x, "(=> (not p) q)", 1);
        hold(b, x, "(and (not p) (not q))", 0);
        hold(b, x, "true", 1);
        hold(b, x, "false", 0);
        hold(b, x, "(= (f y) 3)", 2);
        hold(b, x, "(= a b)", 2);
        hold(b, x, "(= a a)", 1);
        Bench.run(x, "(assert (<= y x 9))");
        hold(b, x, "p", UNSAT);
        x = asserting("(distinct x y)");
        hold(b, x, "(= (store a x 1) (store (store a x 2) x 1))", 1);
        hold(b, x, "(= (store a x 1) a)", 2);
        hold(b, x, "(= (select (store a x 1) y) (select a y))", 1);
    }

    private static void gap(Bench b, TheoryCourt x, String one, String other, long want) {
        b.due("apart of " + one + " and " + other, x.apart(Bench.term(x, one), Bench.term(x, other)), want);
    }

    private static void gaps(Bench b) {
        TheoryCourt x = asserting("(< x y)", "(<= y (+ x 7))", "(or (= z x) (= z (- y 2)))");
        gap(b, x, "x", "y", -1);
        gap(b, x, "y", "x", 7);
        gap(b, x, "z", "x", 5);
        gap(b, x, "z", "y", -1);
        gap(b, x, "x", "x", 0);
        gap(b, x, "x", "5", FAR);
        gap(b, x, "5", "x", FAR);
        gap(b, x, "(+ y 3)", "(- x 4)", 14);
        gap(b, x, "9", "12", -3);
        gap(b, x, "(ite p x y)", "x", 7);
        gap(b, x, "(f x)", "x", FAR);
        x = asserting("(<= (- 999999) x 999999)", "(>= (+ x 999999) y)", "(distinct (- y 999999) 999999)", "(= (f x) 4)");
        gap(b, x, "y", "0", 1999997);
        gap(b, x, "0", "y", FAR);
        gap(b, x, "(f y)", "(f x)", FAR);
        Bench.run(x, "(assert (= x y))");
        gap(b, x, "(f y)", "(f x)", 0);
        gap(b, x, "x", "0", 999999);
    }

    private static void levels(Bench b) {
        TheoryCourt x = asserting("(> x 3)");
        int t = Bench.term(x, "x");
        b.due("value", x.value(t), 4);
        Bench.run(x, "(push)");
        Bench.run(x, "(assert (> x 8))");
        b.due("value after assert", x.value(t), 9);
        Bench.run(x, "(assert (< x 5))");
        b.due("check after assert", x.check(), 0);
        b.due("core", x.core(0), 0);
        b.due("value", x.value(t), UNSAT);
        Bench.run(x, "(pop)");
        b.due("check after pop", x.check(), 1);
        b.due("value after pop", x.value(t), 4);
        b.due("core after pop", x.core(0), -1);
        Bench.run(x, "(term (= 7 7))");
        b.due("value after term", x.value(t), 4);
        b.due("value of what came", x.value(x.count(1) - 1), 1);
    }
}
