/** Promises 4 to 13 and 22 where rooms are full at once: 4 BOOL UNITS with 3 EQUATIONS, and then all that there is. */
public final class FullRoomTest {
    private static final String[] BOOLS = {"p", "q", "s", "(r 7)"};
    private static final String[] EQUATIONS = {"(= a b)", "(= b c)", "(= a c)"};
    private static final String[] NAMES = {
        "(declare-const p Bool)", "(declare-const q Bool)", "(declare-const s Bool)", "(declare-fun r (Int) Bool)",
        "(declare-const a (Array Int Int))", "(declare-const b (Array Int Int))", "(declare-const c (Array Int Int))",
        "(term (and p q s (r 7)))", "(term (and (= a b) (= b c) (= a c)))"};
    private static final int BITS = 7;
    private static final String[] ASSERTED = {"(= x 3)", "(= y (- 2))", "(= z 3)", "(= (f x) 9)", "(= (select a x) 4)",
        "(= (ite p x y) 3)", "(= (ite q y z) (- 2))", "(= (ite (r x) 1 2) 2)", "(distinct a (store a x 5))",
        "(or (= b (store b y 7)) (<= x z))", "(or (>= z x) (= a b))", "(distinct x y)", "(=> (r y) (> x y))", "(or true)"};
    private static final String[] TERMS = {"x", "y", "z", "(f x)", "(select a x)", "(select (store a x 5) z)", "p", "q", "(r x)", "(r y)", "(= a b)",
        "(distinct a (store a x 5))", "(= b (store b y 7))", "(ite p x y)", "(ite q y z)", "(ite (r x) 1 2)"};
    private static final int[] VALUES = {3, -2, 3, 9, 4, 5, 1, 1, 0, 0, 0, 1, 0, 3, -2, 2};

    public static void main(String[] args) {
        Bench b = new Bench("FullRoomTest");
        everySetting(b);
        leastSettings(b);
        boundSettings(b);
        allAtOnce(b);
        nothingMore(b);
        b.finish();
    }

    private static String bit(int i) {
        return i < BOOLS.length ? BOOLS[i] : EQUATIONS[i - BOOLS.length];
    }

    private static int bitOf(int setting, int i) {
        return setting >> BITS - 1 - i & 1;
    }

    /** Two equations of three arrays make the third. */
    private static boolean isPossible(int setting) {
        return Integer.bitCount(setting & 7) != 2;
    }

    /** Each of the 128 ways that Bools and equations can be, asserted bit by bit. */
    private static void everySetting(Bench b) {
        for (int setting = 0; setting < 1 << BITS; setting++) {
            TheoryCourt x = Bench.court(NAMES);
            for (int i = 0; i < BITS; i++) {
                b.runs(x, bitOf(setting, i) == 1 ? "(assert " + bit(i) + ")" : "(assert (not " + bit(i) + "))", i);
            }
            boolean possible = isPossible(setting);
            b.due("check of setting " + setting, x.check(), possible ? 1 : 0);
            b.due("sure of setting " + setting, x.sure(), 1);
            for (int i = 0; i < BITS; i++) {
                int t = Bench.term(x, bit(i));
                b.due("value of " + bit(i) + " in " + setting, x.value(t), possible ? bitOf(setting, i) : TheoryCourt.UNSAT);
                b.due("holds of " + bit(i) + " in " + setting, x.holds(t), possible ? bitOf(setting, i) : TheoryCourt.UNSAT);
                b.due("core of " + bit(i) + " in " + setting, x.core(i), possible ? -1 : i < BOOLS.length ? 0 : 1);
            }
        }
    }

    /** The least setting that is not below a bound: what is true as a Bool that comes first must be false, if it can be. */
    private static void leastSettings(Bench b) {
        String odd = "(xor p q s (r 7) (= a b) (= b c) (= a c))";
        least(b, 0, "true");
        least(b, 1, odd);
        least(b, 64, "p", "(not (= a c))", "(not (= a b))", odd);
        least(b, 65, "p", "(not " + odd + ")");
        least(b, 2, "(or (= a b) (= b c))");
        least(b, 4, "(= a b)");
        least(b, 7, "(= a b)", "(= b c)");
        least(b, 8, "(or p q s (r 7))");
        least(b, 16, "(or p q s)");
        least(b, 32, "(or p q)");
        least(b, 72, "p", "(or q s (r 7))");
        least(b, 71, "p", "(and (= a b) (= a c))");
        least(b, 127, "(and p q s (r 7))", "(and (= a b) (= b c) (= a c))");
        least(b, 120, "(and p q s (r 7))");
        least(b, 96, "(and p q)");
        least(b, 66, "(and p (or (= b c) (= a b)))");
        least(b, 16, "(ite p q s)");
        least(b, 96, "p", "(ite p q s)");
        least(b, 80, "p", "(ite (= a b) q s)");
        least(b, 64, "p", "(not (ite q s (r 7)))");
        least(b, 68, "(ite (= a b) p q)", "(not q)");
        least(b, 0, "(not (distinct p q))");
        least(b, 96, "p", "(not (distinct p q))");
        least(b, 64, "p", "(distinct p q)");
        least(b, 65, "p", "(distinct (= a c) q)");
        least(b, 97, "p", "(not (distinct (= a c) q))", "q");
        least(b, 64, "p", "(not (distinct p q s))");
        least(b, 120, "p", "(= p q s (r 7))");
        least(b, 8, "(not (= p q s (r 7)))");
        least(b, 88, "p", "(=> p s)", "(=> p s (r 7))");
        least(b, 64, "p", "(=> q s)");
    }

    private static void least(Bench b, int setting, String... texts) {
        TheoryCourt x = Bench.court(NAMES);
        for (String text : texts) {
            b.due("assert of " + text, Bench.run(x, "(assert " + text + ")") >= 0 ? 1 : 0, 1);
        }
        for (int i = 0; i < BITS; i++) {
            b.due("value of " + bit(i) + " with " + String.join(" ", texts), x.value(Bench.term(x, bit(i))), bitOf(setting, i));
        }
    }

    /** Numbers that are tied to the first Bool, and to the last equation. */
    private static void boundSettings(Bench b) {
        for (int row = 0; row < 4; row++) {
            TheoryCourt x = Bench.court(NAMES);
            Bench.run(x, "(declare-const x Int)");
            b.runs(x, "(assert (= x (ite p (ite (= a c) 4 3) (ite (= a c) 2 1))))", 0);
            b.runs(x, "(assert " + (row / 2 == 1 ? "p" : "(not p)") + ")", 1);
            b.runs(x, "(assert " + (row % 2 == 1 ? "(= a c)" : "(not (= a c))") + ")", 2);
            int t = Bench.term(x, "x");
            b.due("value", x.value(t), row + 1);
            b.due("apart", x.apart(t, Bench.term(x, "1")), row);
            Bench.run(x, "(term 5)");
            b.due("holds", x.holds(Bench.term(x, "(= x 4)")), row == 3 ? 1 : 0);
        }
        TheoryCourt x = Bench.court(NAMES);
        Bench.run(x, "(declare-const x Int)");
        b.runs(x, "(assert (= x (ite p (ite (= a c) 4 3) (ite (= a c) 2 1))))", 0);
        int t = Bench.term(x, "x");
        int one = Bench.term(x, "1");
        b.due("apart at most", x.apart(t, one), 3);
        b.due("apart the other way", x.apart(one, t), 0);
        b.due("the Bool comes first", x.value(t), 1);
        b.runs(x, "(assert (> x 2))", 1);
        b.due("value", x.value(t), 3);
        b.due("value of p", x.value(0), 1);
    }

    /** 24 symbols, 64 terms, 14 assertions, 8 levels, and every other room full. */
    private static TheoryCourt full(Bench b) {
        TheoryCourt x = Bench.court("(declare-const x Int)", "(declare-const y Int)", "(declare-const z Int)", "(declare-const p Bool)",
            "(declare-const q Bool)", "(declare-const a (Array Int Int))", "(declare-const b (Array Int Int))",
            "(declare-fun f (Int) Int)", "(declare-fun r (Int) Bool)");
        for (int i = 9; i < 24; i++) {
            b.runs(x, "(declare-const n" + i + " Int)", i);
        }
        for (int i = 0; i < ASSERTED.length; i++) {
            b.runs(x, "(assert " + ASSERTED[i] + ")", i);
            if (i < 8) {
                b.runs(x, "(push)", i + 1);
            }
        }
        b.due("the last unit", Bench.term(x, "(select (store a x 5) z)") >= 0 ? 1 : 0, 1);
        for (int i = 0; x.count(1) < 64; i++) {
            Bench.term(x, String.valueOf(100 + i));
        }
        b.due("counts", Bench.counts(x), "24 64 14 8 6 4 4 3 3 12 ");
        return x;
    }

    private static void allAtOnce(Bench b) {
        TheoryCourt x = full(b);
        b.due("check", x.check(), 1);
        b.due("sure", x.sure(), 1);
        for (int i = 0; i < TERMS.length; i++) {
            b.due("value of " + TERMS[i], x.value(Bench.term(x, TERMS[i])), VALUES[i]);
        }
        b.due("apart", x.apart(Bench.term(x, "x"), Bench.term(x, "y")), 5);
        b.due("apart", x.apart(Bench.term(x, "(f x)"), Bench.term(x, "100")), -91);
        b.due("holds of p", x.holds(Bench.term(x, "p")), 1);
        b.due("holds of (r y)", x.holds(Bench.term(x, "(r y)")), 2);
        b.due("holds of (r x)", x.holds(Bench.term(x, "(r x)")), 0);
        b.due("holds of (= a b)", x.holds(Bench.term(x, "(= a b)")), 2);
        b.due("core", x.core(13), -1);
    }

    /** Then each command that wants room is refused, and what wants none is not. */
    private static void nothingMore(Bench b) {
        TheoryCourt x = full(b);
        String before = Bench.counts(x);
        for (String text : new String[] {"(declare-const m Int)", "(define-fun m () Int 3)", "(define-fun m ((u Int)) Int u)", "(push)",
            "(assert p)", "(term n9)", "(term (r z))", "(term (not p))", "(term (= a a))", "(term (= x 4))", "(term (select b x))", "(term 99)"}) {
            b.fails(x, text, -107, 1);
        }
        b.due("counts", Bench.counts(x), before);
        b.runs(x, "(term (= x 3))", Bench.term(x, "(= x 3)"));
        b.runs(x, "(pop)", 7);
        b.runs(x, "(push)", 8);
        b.due("assertions", x.count(2), 8);
        b.due("check", x.check(), 1);
        b.due("value of y", x.value(Bench.term(x, "y")), -2);
        for (int i = 7; i >= 0; i--) {
            b.runs(x, "(pop)", i);
        }
        b.due("counts", Bench.counts(x), "24 3 1 0 1 0 0 0 0 1 ");
    }
}
