/** Promises 17 to 21: literal, step, clear, clause, refuted. */
public final class ProofTest {
    private static final String[] NAMES = {
        "(declare-const x Int)", "(declare-const y Int)", "(declare-const z Int)", "(declare-const p Bool)",
        "(declare-const q Bool)", "(declare-const a (Array Int Int))", "(declare-fun f (Int) Int)",
        "(declare-fun g (Int Int) Int)"};

    public static void main(String[] args) {
        Bench b = new Bench("ProofTest");
        drafts(b);
        assertedAndResolved(b);
        connected(b);
        ordered(b);
        alike(b);
        readAndPassed(b);
        chosen(b);
        linked(b);
        split(b);
        limits(b);
        b.finish();
    }

    /** Whether a rule allows a draft; a text with ~ before it is the opposite, b may be NONE. */
    private static void rule(Bench b, TheoryCourt x, int rule, String a, String other, boolean want, String... draft) {
        x.clear();
        for (String text : draft) {
            boolean opposite = text.startsWith("~");
            int t = Bench.term(x, opposite ? text.substring(1) : text);
            if (x.literal(2 * t + (opposite ? 1 : 0)) < 0) {
                throw new IllegalStateException(text);
            }
        }
        int one = Bench.term(x, a);
        int two = other.isEmpty() ? -7 : Bench.term(x, other);
        int had = x.clause(-1, -1);
        int step = x.step(rule, one, two);
        String what = "step(" + rule + ") of " + a + " " + other + " with " + String.join(" ", draft);
        b.due(what, step >= 0 ? 1 : 0, want ? 1 : 0);
        b.due(what + ": the draft", x.clause(-1, -1), want ? 0 : had);
        if (want) {
            b.due(what + ": the step", x.clause(step, -1), had);
        }
    }

    private static void drafts(Bench b) {
        TheoryCourt x = Bench.court(NAMES);
        int p = Bench.term(x, "p");
        int i = Bench.term(x, "x");
        int q = Bench.term(x, "q");
        b.due("clear of nothing", x.clear(), 0);
        b.due("literal", x.literal(2 * q + 1), 1);
        b.due("literal", x.literal(2 * p), 2);
        b.due("the same again", x.literal(2 * p), 2);
        b.due("its opposite", x.literal(2 * p + 1), 3);
        b.due("of an Int", x.literal(2 * i), -1);
        b.due("of no term", x.literal(2 * x.count(1)), -1);
        b.due("-1", x.literal(-1), -1);
        b.due("MIN", x.literal(Integer.MIN_VALUE), -1);
        b.due("MAX", x.literal(Integer.MAX_VALUE), -1);
        b.due("told in order", x.clause(-1, 0), 2 * p);
        b.due("told in order", x.clause(-1, 1), 2 * p + 1);
        b.due("told in order", x.clause(-1, 2), 2 * q + 1);
        b.due("no more", x.clause(-1, 3), -1);
        b.due("how many", x.clause(-1, -1), 3);
        b.due("i = -2", x.clause(-1, -2), -1);
        b.due("k = -2", x.clause(-2, -1), -1);
        b.due("k = 0", x.clause(0, -1), -1);
        b.due("k = MAX", x.clause(Integer.MAX_VALUE, -1), -1);
        b.due("i = MAX", x.clause(-1, Integer.MAX_VALUE), -1);
        b.due("clear", x.clear(), 3);
        b.due("how many then", x.clause(-1, -1), 0);
        b.due("refuted", x.refuted(), -1);
        String[] more = {"true", "false", "(not p)", "(not q)", "(and p q)", "(or p q)", "(xor p q)"};
        x.literal(2 * p);
        for (String text : more) {
            x.literal(2 * Bench.term(x, text));
        }
        b.due("the ninth", x.literal(2 * q), -1);
        b.due("one of the eight", x.literal(2 * p), 8);
        Bench.run(x, "(push)");
        Bench.run(x, "(assert p)");
        Bench.run(x, "(declare-const w Int)");
        b.due("it stays", x.clause(-1, -1), 8);
        b.due("step", x.step(0, 0, 0), 0);
        b.due("step's literals", x.clause(0, -1), 8);
        b.due("step's literals", x.clause(0, 0), 2 * p);
        x.literal(2 * p);
        Bench.run(x, "(pop)");
        b.due("pop takes the draft", x.clause(-1, -1), 0);
        b.due("and the steps", x.clause(0, -1), -1);
        x.literal(2 * p);
        Bench.run(x, "(pop)");
        b.due("a pop with a fault does not", x.clause(-1, -1), 1);
    }

    private static void assertedAndResolved(Bench b) {
        TheoryCourt x = Bench.court(NAMES);
        Bench.run(x, "(assert (or p q))");
        Bench.run(x, "(assert (not p))");
        Bench.run(x, "(assert (not q))");
        int p = 2 * Bench.term(x, "p");
        int q = 2 * Bench.term(x, "q");
        int or = 2 * x.asserted(0);
        int notP = 2 * x.asserted(1);
        int notQ = 2 * x.asserted(2);
        b.due("no literal", x.step(0, 0, 0), -1);
        x.literal(or);
        b.due("another assertion's", x.step(0, 1, 0), -1);
        b.due("no assertion", x.step(0, 3, 0), -1);
        b.due("no assertion", x.step(0, -1, 0), -1);
        b.due("no rule", x.step(10, 0, 0), -1);
        b.due("no rule", x.step(-1, 0, 0), -1);
        b.due("0: asserted", x.step(0, 0, 99), 0);
        x.literal(notP);
        b.due("1: asserted", x.step(0, 1, -5), 1);
        x.literal(notQ);
        b.due("2: asserted", x.step(0, 2, 0), 2);
        x.literal(or + 1);
        x.literal(p);
        x.literal(q);
        b.due("3: connected", x.step(2, x.asserted(0), 0), 3);
        x.literal(notP + 1);
        x.literal(p + 1);
        b.due("4: connected", x.step(2, x.asserted(1), 0), 4);
        x.literal(notQ + 1);
        x.literal(q + 1);
        b.due("5: connected", x.step(2, x.asserted(2), 0), 5);
        x.literal(p);
        b.due("not all others", x.step(1, 0, 3), -1);
        x.literal(q);
        b.due("6: resolved", x.step(1, 0, 3), 6);
        x.literal(p + 1);
        b.due("7: resolved the other way round", x.step(1, 4, 1), 7);
        x.literal(q + 1);
        b.due("8: resolved", x.step(1, 2, 5), 8);
        x.literal(q);
        b.due("no such step", x.step(1, 6, 9), -1);
        b.due("no such step", x.step(1, -1, 7), -1);
        b.due("no opposite", x.step(1, 6, 8 - 8), -1);
        b.due("9: resolved", x.step(1, 6, 7), 9);
        b.due("refuted before", x.refuted(), -1);
        b.due("10: resolved to nothing", x.step(1, 9, 8), 10);
        b.due("refuted", x.refuted(), 10);
        b.due("how many", x.clause(10, -1), 0);
        b.due("none", x.clause(10, 0), -1);
        x.literal(p);
        b.due("11: more literals may be there", x.step(1, 8, 9), 11);
        b.due("refuted is the first", x.refuted(), 10);
    }

    private static void connected(Bench b) {
        TheoryCourt x = Bench.court(NAMES);
        rule(b, x, 2, "true", "", true, "true");
        rule(b, x, 2, "true", "", false, "~true");
        rule(b, x, 2, "false", "", true, "~false");
        rule(b, x, 2, "false", "", false);
        rule(b, x, 2, "p", "", false, "p", "~p");
        rule(b, x, 2, "(not p)", "", true, "(not p)", "p");
        rule(b, x, 2, "(not p)", "", true, "p", "~p");
        rule(b, x, 2, "(not p)", "", false, "q", "~q");
        rule(b, x, 2, "(and p q)", "", true, "~(and p q)", "p");
        rule(b, x, 2, "(and p q)", "", true, "(and p q)", "~p", "~q");
        rule(b, x, 2, "(and p q)", "", false, "(and p q)", "~p");
        rule(b, x, 2, "(or p p)", "", true, "~(or p p)", "p");
        rule(b, x, 2, "(or p (not p))", "", false, "(or p (not p))");
        rule(b, x, 2, "(or p true)", "", false, "(or p true)");
        rule(b, x, 2, "(xor p p)", "", true, "~(xor p p)");
        rule(b, x, 2, "(xor p q)", "", true, "(xor p q)", "p", "~q");
        rule(b, x, 2, "(=> p q p)", "", true, "(=> p q p)");
        rule(b, x, 2, "(=> p q)", "", true, "(=> p q)", "p");
        rule(b, x, 2, "(=> p q)", "", false, "(=> p q)", "~p");
        rule(b, x, 2, "(= p q)", "", true, "~(= p q)", "~p", "q");
        rule(b, x, 2, "(distinct p q (not p))", "", true, "~(distinct p q (not p))");
        rule(b, x, 2, "(distinct p q)", "", true, "(distinct p q)", "p", "~q");
        rule(b, x, 2, "(distinct p q)", "", false, "(distinct p q)", "p", "q");
        rule(b, x, 2, "(ite p q (not q))", "", true, "~(ite p q (not q))", "~p", "q");
        rule(b, x, 2, "(ite p q (not q))", "", true, "(ite p q (not q))", "p", "~(not q)");
        rule(b, x, 2, "(ite p q (not q))", "", false, "(ite p q (not q))", "p", "q");
        rule(b, x, 2, "(= x x)", "", false, "(= x x)");
        rule(b, x, 2, "(ite p x y)", "", false, "p", "~p");
        rule(b, x, 2, "(< x y)", "", false, "(< x y)", "~(< x y)");
    }

    private static void ordered(Bench b) {
        TheoryCourt x = Bench.court(NAMES);
        rule(b, x, 3, "x", "", true, "~(< x y)", "~(< y x)");
        rule(b, x, 3, "x", "", true, "(< x y)", "(<= y x)");
        rule(b, x, 3, "x", "", true, "(<= x y)", "(< y x)");
        rule(b, x, 3, "x", "", false, "(< x y)", "(> x y)");
        rule(b, x, 3, "x", "", true, "(distinct x y)", "~(< x y)");
        rule(b, x, 3, "x", "", false, "(= x y)", "(< x y)", "(< y x)");
        rule(b, x, 3, "x", "", false, "~(distinct x y)", "~(<= x y)", "~(<= y x)");
        TheoryCourt y = Bench.court(NAMES);
        rule(b, y, 3, "x", "", true, "~(< x y z)", "~(< z x)");
        rule(b, y, 3, "x", "", false, "(< x y z)", "~(< z x)");
        rule(b, y, 3, "x", "", true, "~(= x y 3)", "~(> x 3)");
        rule(b, y, 3, "x", "", false, "p", "~p");
        rule(b, y, 3, "x", "", false);
        TheoryCourt z = Bench.court(NAMES);
        rule(b, z, 3, "x", "", true, "~(< x (+ y 1))", "(<= x y)");
        rule(b, z, 3, "x", "", true, "~(< 5 3)");
        rule(b, z, 3, "x", "", false, "~(= a (store a 1 1))", "(= a a)");
        rule(b, z, 3, "x", "", true, "~(>= (f x) 999999)", "~(<= (+ (f x) 999999) (+ (f x) 4))");
        rule(b, z, 3, "x", "", false, "~(= (f x) 1)", "~(= (f 1) 2)", "~(= x 1)");
    }

    private static void alike(Bench b) {
        TheoryCourt x = Bench.court(NAMES);
        rule(b, x, 4, "(f x)", "(f y)", true, "(= (f x) (f y))", "~(= x y)");
        rule(b, x, 4, "(f x)", "(f y)", true, "(= (f y) (f x))", "~(= y x)", "p");
        rule(b, x, 4, "(f x)", "(f y)", false, "(= (f y) (f x))");
        rule(b, x, 4, "(f x)", "(f y)", false, "(= (f y) (f x))", "(= x y)");
        rule(b, x, 4, "(f x)", "(f y)", false, "~(= (f x) (f y))", "~(= x y)");
        rule(b, x, 4, "(f x)", "(f x)", false, "p");
        rule(b, x, 4, "(f x)", "(f x)", true, "(= (f x) (f x))");
        rule(b, x, 4, "x", "x", false, "(= x y)");
        TheoryCourt y = Bench.court(NAMES);
        rule(b, y, 4, "(g x y)", "(g y y)", true, "(= (g x y) (g y y))", "~(= x y)");
        rule(b, y, 4, "(g x y)", "(g y x)", true, "(= (g x y) (g y x))", "~(= x y)");
        y = Bench.court(NAMES);
        rule(b, y, 4, "(select a x)", "(select a y)", true, "(= (select a x) (select a y))", "~(= x y)");
        TheoryCourt z = Bench.court(NAMES);
        rule(b, z, 4, "(store a x 1)", "(store a y 1)", true, "(= (store a x 1) (store a y 1))", "~(= x y)");
        rule(b, z, 4, "(select (store a x 1) x)", "(select a x)", true,
            "(= (select (store a x 1) x) (select a x))", "~(= a (store a x 1))");
        b.due("no such terms", z.step(4, -1, 3), -1);
        b.due("no such terms", z.step(4, 3, 64), -1);
    }

    private static void readAndPassed(Bench b) {
        TheoryCourt x = Bench.court(NAMES);
        String s = "(select (store a x 3) ";
        rule(b, x, 5, s + "x)", "", true, "(= " + s + "x) 3)");
        rule(b, x, 5, s + "y)", "", true, "(= 3 " + s + "y))", "~(= y x)");
        rule(b, x, 5, s + "y)", "", false, "(= 3 " + s + "y))");
        rule(b, x, 5, "(select a x)", "", false, "(= 3 " + s + "y))", "~(= y x)");
        rule(b, x, 6, s + "y)", "(select a y)", true, "(= " + s + "y) (select a y))", "(= x y)");
        rule(b, x, 6, s + "y)", "(select a y)", false, "(= " + s + "y) (select a y))", "~(= x y)");
        rule(b, x, 6, s + "y)", "(select a y)", false, "(= x y)");
        rule(b, x, 6, "(select a y)", s + "y)", false, "(= " + s + "y) (select a y))", "(= x y)");
        b.due("no such term", x.step(6, Bench.term(x, s + "y)"), -1), -1);
    }

    private static void chosen(Bench b) {
        TheoryCourt x = Bench.court(NAMES);
        rule(b, x, 7, "(ite p x y)", "", true, "~p", "(= (ite p x y) x)");
        rule(b, x, 7, "(ite p x y)", "", true, "p", "(= y (ite p x y))");
        rule(b, x, 7, "(ite p x y)", "", false, "p", "(= (ite p x y) x)");
        rule(b, x, 7, "(ite p x y)", "", false, "~p", "(= y (ite p x y))");
        rule(b, x, 7, "(ite p q q)", "", false, "~p", "(= (ite p q q) q)");
        rule(b, x, 7, "(ite q a (store a 1 1))", "", true, "~q", "(= (ite q a (store a 1 1)) a)");
        rule(b, x, 7, "x", "", false, "~p");
    }

    private static void linked(Bench b) {
        TheoryCourt x = Bench.court(NAMES);
        rule(b, x, 8, "x", "z", true, "(= x z)", "~(= y x)", "~(= y z)");
        rule(b, x, 8, "x", "z", false, "(= x z)", "~(= y x)");
        rule(b, x, 8, "x", "z", false, "(= x z)", "~(= y x)", "(= y z)");
        rule(b, x, 8, "x", "z", false, "~(= y x)", "~(= y z)");
        rule(b, x, 8, "x", "x", true, "(= x x)");
        rule(b, x, 8, "x", "x", false, "p");
        rule(b, x, 8, "p", "q", true, "(= q p)", "~(= p q)");
        rule(b, x, 8, "x", "z", false, "(= x z)", "~(= x y z)");
        rule(b, x, 8, "x", "z", true, "(= z x)", "~(= x z)");
    }

    private static void split(Bench b) {
        TheoryCourt x = Bench.court(NAMES);
        rule(b, x, 9, "x", "y", true, "(= x y)", "(< x y)", "(< y x)");
        rule(b, x, 9, "y", "x", true, "(= x y)", "(< x y)", "(> x y)");
        rule(b, x, 9, "x", "y", true, "(= y x)", "(> y x)", "(> x y)", "p");
        rule(b, x, 9, "x", "y", false, "(= y x)", "(> y x)", "(< x y)");
        rule(b, x, 9, "x", "y", false, "(= y x)", "(> y x)", "~(<= x y)");
        rule(b, x, 9, "x", "y", false, "(> y x)", "(> x y)");
        rule(b, x, 9, "p", "q", false, "(= p q)");
    }

    private static void limits(Bench b) {
        TheoryCourt x = Bench.court(NAMES);
        int t = Bench.term(x, "true");
        for (int i = 0; i < 60; i++) {
            x.literal(2 * t);
            b.due("step " + i, x.step(2, t, Integer.MIN_VALUE), i);
        }
        x.literal(2 * t);
        b.due("the 61st", x.step(2, t, 0), -1);
        b.due("the draft stays", x.clause(-1, 0), 2 * t);
        b.due("the last", x.clause(59, 0), 2 * t);
        int[] wild = {-1, 64, Integer.MIN_VALUE, Integer.MAX_VALUE};
        TheoryCourt y = Bench.court(NAMES);
        for (int rule = -1; rule <= 10; rule++) {
            for (int a : wild) {
                for (int c : wild) {
                    b.due("step(" + rule + ", " + a + ", " + c + ")", y.step(rule, a, c), -1);
                }
            }
        }
    }
}
