/** The promises 1 to 16 and 22, one by one: the edges that each names, and what a refused call must not change. */
public final class PromiseEdgeTest {
    private static final int NONE = TheoryCourt.NONE;
    private static final int UNSAT = TheoryCourt.UNSAT;
    private static final long FAR = TheoryCourt.FAR;
    private static final int MIN = Integer.MIN_VALUE;
    private static final int MAX = Integer.MAX_VALUE;
    private static final int BLANKS = 0x20202020;
    private static final String[] NAMES = {
        "(declare-const x Int)", "(declare-const y Int)", "(declare-const z Int)", "(declare-const p Bool)",
        "(declare-const q Bool)", "(declare-const a (Array Int Int))", "(declare-const b (Array Int Int))",
        "(declare-const c (Array Int Int))", "(declare-fun f (Int) Int)", "(declare-fun r (Int Int Int) Bool)"};

    public static void main(String[] args) {
        Bench b = new Bench("PromiseEdgeTest");
        newObject(b);
        feedToTheLast(b);
        feedRefused(b);
        feedOrder(b);
        ends(b);
        endsRefused(b);
        runs(b);
        places(b);
        counts(b);
        termNumbers(b);
        termWhats(b);
        assertedNumbers(b);
        checks(b);
        valuesRefused(b);
        valuesOfInts(b);
        valuesOfBools(b);
        valuesOfEquations(b);
        valuesInOrder(b);
        valuesOfWholes(b);
        cores(b);
        coresRefused(b);
        holds(b);
        holdsRefused(b);
        aparts(b);
        apartsRefused(b);
        written(b);
        writtenToTheLast(b);
        writtenNumbers(b);
        outs(b);
        symbols(b);
        sures(b);
        askedAndChanged(b);
        askedOneAfterTheOther(b);
        lastCall(b);
        wildNumbers(b);
        b.finish();
    }

    private static TheoryCourt asserting(String... texts) {
        TheoryCourt x = Bench.court(NAMES);
        for (String text : texts) {
            if (Bench.run(x, "(assert " + text + ")") < 0) {
                throw new IllegalStateException(text);
            }
        }
        return x;
    }

    /** Promise 1: no symbols, terms, assertions, levels. */
    private static void newObject(Bench b) {
        TheoryCourt x = new TheoryCourt();
        b.due("place", x.place(), NONE);
        b.due("counts", Bench.counts(x), "0 0 0 0 0 0 0 0 0 0 ");
        b.due("term", x.term(0, 0), NONE);
        b.due("asserted", x.asserted(0), NONE);
        b.due("check", x.check(), 1);
        b.due("value", x.value(0), NONE);
        b.due("core", x.core(0), NONE);
        b.due("holds", x.holds(0), NONE);
        b.due("apart", x.apart(0, 0), -FAR);
        b.due("write", x.write(0), NONE);
        b.due("out", x.out(0), NONE);
        b.due("symbol", x.symbol(0, -1), NONE);
        b.due("literal", x.literal(0), NONE);
        for (int rule = 0; rule <= 9; rule++) {
            b.due("step by rule " + rule, x.step(rule, 0, 0), NONE);
        }
        b.due("clause", x.clause(0, -1), NONE);
        b.due("the draft", x.clause(-1, -1), 0);
        b.due("clear", x.clear(), 0);
        b.due("refuted", x.refuted(), NONE);
        b.due("sure", x.sure(), 1);
        b.due("end", x.end(0), NONE);
        b.due("run", x.run(), -3);
        b.due("its place", x.place(), 0);
        TheoryCourt y = asserting("(< x 3)");
        b.due("another object has nothing of it", new TheoryCourt().count(1), 0);
        b.due("nor does it of another", y.count(1), 3);
    }

    /** Promise 2: twenty bytes come: how many it has. */
    private static void feedToTheLast(Bench b) {
        TheoryCourt x = new TheoryCourt();
        for (int i = 1; i <= 100; i++) {
            b.due("feed " + i, x.feed(i, MIN, MAX, -1, 0), 20 * i);
        }
        b.due("one more", x.feed(0, 0, 0, 0, 0), NONE);
        b.due("and again", x.feed(0, 0, 0, 0, 0), NONE);
        b.due("they are 2000 still", x.end(20), 2000);
        b.due("19 of the last 20", x.end(19), 1999);
        b.due("it would have 2019", x.feed(0, 0, 0, 0, 0), NONE);
        b.due("1980 are left", x.end(1), 1980);
        b.due("2000 again", x.feed(0, 0, 0, 0, 0), 2000);
    }

    /** NONE (none comes): it would have more than 2000. */
    private static void feedRefused(Bench b) {
        for (int over = 1; over <= 20; over++) {
            TheoryCourt x = new TheoryCourt();
            Bench.feed(x, " ".repeat(1980 + over));
            b.due("feed with " + (1980 + over), x.feed(-1, -1, -1, -1, -1), NONE);
            b.due("run", x.run(), -3);
            b.due("none came", x.place(), 1980 + over);
        }
        TheoryCourt y = new TheoryCourt();
        Bench.feed(y, " ".repeat(1974) + "(push)");
        b.due("to the last byte", y.feed(BLANKS, BLANKS, BLANKS, BLANKS, BLANKS), 2000);
        b.due("run", y.run(), 1);
    }

    /** The first number's highest one first. */
    private static void feedOrder(Bench b) {
        String name = "abcdefghijklmno";
        TheoryCourt x = new TheoryCourt();
        b.due("feed", x.feed(0x28646563, 0x6c617265, 0x2d636f6e, 0x73742061, 0x62636465), 20);
        b.due("feed", x.feed(0x66676869, 0x6a6b6c6d, 0x6e6f2049, 0x6e742920, 0xffffffff), 40);
        b.due("end", x.end(16), 36);
        b.due("run", x.run(), 0);
        for (int i = 0; i < name.length(); i++) {
            b.due("byte " + i, x.symbol(0, i), name.charAt(i));
        }
        TheoryCourt y = new TheoryCourt();
        y.feed(0x20202020, 0x20202020, 0x20202020, 0x20202020, 0x202020ff);
        b.due("run", y.run(), -3);
        b.due("the last byte is the 20th", y.place(), 19);
        y.feed(0x80202020, 0x20202020, 0x20202020, 0x20202020, 0x20202020);
        b.due("run", y.run(), -3);
        b.due("the first is the first", y.place(), 0);
    }

    /** Promise 3: of the last 20 bytes only the first n stay. */
    private static void ends(Bench b) {
        for (int n = 0; n <= 20; n++) {
            TheoryCourt x = new TheoryCourt();
            x.feed(BLANKS, BLANKS, BLANKS, BLANKS, BLANKS);
            b.due("end(" + n + ") of 20", x.end(n), n);
            b.due("run", x.run(), -3);
            b.due("place", x.place(), n);
            Bench.feed(x, "(push)" + " ".repeat(14) + "#".repeat(20));
            b.due("end(" + n + ") of 40", x.end(n), 20 + n);
            b.due("run", x.run(), n == 0 ? 1 : -3);
            b.due("place", x.place(), n == 0 ? NONE : 20);
        }
        TheoryCourt y = new TheoryCourt();
        Bench.feed(y, "(push)" + " ".repeat(8) + "#".repeat(20));
        b.due("what is cut is the end", y.end(0), 14);
        b.due("run", y.run(), 1);
    }

    /** NONE: n is not 0 .. 20, or there are not 20. */
    private static void endsRefused(Bench b) {
        for (int size : new int[] {20, 21, 40, 2000}) {
            for (int n : new int[] {-1, 21, -20, 1000, MIN, MAX}) {
                TheoryCourt x = new TheoryCourt();
                Bench.feed(x, " ".repeat(size));
                b.due("end(" + n + ") of " + size, x.end(n), NONE);
                b.due("they stay", x.end(20), size);
            }
        }
        for (int size : new int[] {0, 1, 10, 19}) {
            for (int n : new int[] {-1, 0, 1, 19, 20, 21}) {
                TheoryCourt x = new TheoryCourt();
                Bench.feed(x, " ".repeat(size));
                b.due("end(" + n + ") of " + size, x.end(n), NONE);
                b.due("run", x.run(), -3);
                b.due("they stay", x.place(), size);
            }
        }
    }

    /** Promise 4: what each command answers; -3 SYNTAX, -100 less a FAULT. */
    private static void runs(Bench b) {
        TheoryCourt x = new TheoryCourt();
        b.runs(x, "(declare-const x Int)", 0);
        b.runs(x, "(declare-fun f (Int) Int)", 1);
        b.runs(x, "(define-fun d () Int 1)", 2);
        b.runs(x, "(term (f x))", 1);
        b.runs(x, "(term x)", 0);
        b.runs(x, "(assert (< x 3))", 0);
        b.runs(x, "(assert (< x 3))", 1);
        b.runs(x, "(push)", 1);
        b.runs(x, "(push)", 2);
        b.runs(x, "(pop)", 1);
        b.runs(x, "(pop)", 0);
        String[] wrong = {"(push", "(term nix)", "(declare-const x Int)", "(assert x)", "(term (f x x))", "(term (+ x x))",
            "(term (+ 999999 1))", "(term (distinct 1 2 3 4 5 6))", "(pop)"};
        int[] wants = {-3, -101, -102, -103, -104, -105, -106, -107, -108};
        int[] at = {5, 6, 15, 8, 7, 7, 7, 1, 1};
        for (int i = 0; i < wrong.length; i++) {
            b.refuses(Bench.court("(declare-const x Int)", "(declare-fun f (Int) Int)", "(assert (< x 3))"), wrong[i], wants[i], at[i]);
        }
    }

    /** Promise 5: the place of the latest run()'s SYNTAX or FAULT; NONE. */
    private static void places(Bench b) {
        TheoryCourt x = new TheoryCourt();
        b.due("before a run", x.place(), NONE);
        Bench.feed(x, "(declare-const x Int))");
        b.due("the tape alone is no run", x.place(), NONE);
        x.run();
        b.due("SYNTAX", x.place(), 21);
        b.due("it stays", x.place(), 21);
        Bench.feed(x, "(push)");
        x.check();
        x.write(0);
        x.clear();
        b.due("other calls leave it", x.place(), 21);
        x.run();
        b.due("of a run that is carried out", x.place(), NONE);
        Bench.run(x, "(term nix)");
        b.due("FAULT", x.place(), 6);
        Bench.run(x, "(pop)");
        b.due("NONE again", x.place(), NONE);
        Bench.run(x, "");
        b.due("at 0", x.place(), 0);
    }

    /** Promise 6: NONE for others. */
    private static void counts(Bench b) {
        TheoryCourt x = asserting("(r 1 2 3)", "(= a b)", "(< (select a x) 4)", "p");
        Bench.run(x, "(push)");
        b.due("counts", Bench.counts(x), "10 12 4 1 2 2 2 1 1 1 ");
        for (int what : new int[] {-1, 10, 11, -2, 100, MIN, MAX}) {
            b.due("count(" + what + ")", x.count(what), NONE);
        }
    }

    /** Promise 7: NONE when there is none such. */
    private static void termNumbers(Bench b) {
        TheoryCourt x = asserting("(< x 3)");
        for (int k : new int[] {-1, 3, 4, 63, 64, 1000, MIN, MAX}) {
            for (int what : new int[] {-1, 0, 1, 2, 3, 4, 5, MAX}) {
                b.due("term(" + k + ", " + what + ")", x.term(k, what), NONE);
            }
        }
        b.due("the last one", x.term(2, 0), 16);
        Bench.run(x, "(push)");
        Bench.run(x, "(term 9)");
        b.due("one more", x.term(3, 2), 9);
        Bench.run(x, "(pop)");
        b.due("it went", x.term(3, 2), NONE);
    }

    private static void termWhats(Bench b) {
        String[] texts = {"9", "(- 9)", "x", "p", "a", "(f x)", "(r x x x)", "(select a x)", "(ite p x y)", "(ite p q q)", "(ite p a b)", "(+ x 7)",
            "(- x 7)", "(store a x y)", "true", "false", "(not p)", "(and p)", "(or p q)", "(xor p q)", "(=> p q)", "(= p p p p p p p p)",
            "(distinct x y)", "(< x y)", "(<= x y)", "(> x y)", "(>= x y)"};
        int[] kinds = {0, 0, 1, 1, 1, 2, 2, 3, 4, 4, 4, 5, 5, 6, 7, 8, 9, 10, 11, 12, 13, 14, 15, 16, 17, 18, 19};
        int[] sorts = {0, 0, 0, 1, 2, 0, 1, 0, 0, 1, 2, 0, 0, 2, 1, 1, 1, 1, 1, 1, 1, 1, 1, 1, 1, 1, 1};
        int[] numbers = {9, -9, 0, 3, 5, 8, 9, -1, -1, -1, -1, 7, -7, -1, -1, -1, -1, -1, -1, -1, -1, -1, -1, -1, -1, -1, -1};
        int[] parts = {0, 0, 0, 0, 0, 1, 3, 2, 3, 3, 3, 1, 1, 3, 0, 0, 1, 1, 2, 2, 2, 8, 2, 2, 2, 2, 2};
        for (int i = 0; i < texts.length; i++) {
            TheoryCourt x = Bench.court(NAMES);
            int k = Bench.term(x, texts[i]);
            b.due("kind of " + texts[i], x.term(k, 0), kinds[i]);
            b.due("sort of " + texts[i], x.term(k, 1), sorts[i]);
            b.due("number of " + texts[i], x.term(k, 2), numbers[i]);
            b.due("parts of " + texts[i], x.term(k, 3), parts[i]);
            for (int j = 0; j < parts[i]; j++) {
                b.due("part " + j + " of " + texts[i], x.term(k, 4 + j) >= 0 && x.term(k, 4 + j) < k ? 1 : 0, 1);
            }
            for (int what : new int[] {-1, 4 + parts[i], 5 + parts[i], 12, 100, MIN, MAX}) {
                b.due("what = " + what + " of " + texts[i], x.term(k, what), NONE);
            }
        }
        TheoryCourt x = Bench.court(NAMES);
        int k = Bench.term(x, "(r y 5 x)");
        b.due("the first part", x.term(k, 4), Bench.term(x, "y"));
        b.due("the second part", x.term(k, 5), Bench.term(x, "5"));
        b.due("the third part", x.term(k, 6), Bench.term(x, "x"));
    }

    /** Promise 8: the term of assertion i; NONE. */
    private static void assertedNumbers(Bench b) {
        TheoryCourt x = Bench.court(NAMES);
        b.due("none yet", x.asserted(0), NONE);
        b.runs(x, "(assert (not p))", 0);
        b.runs(x, "(assert p)", 1);
        b.runs(x, "(assert (not p))", 2);
        int[] wants = {1, 0, 1};
        for (int i = 0; i < 3; i++) {
            b.due("asserted(" + i + ")", x.asserted(i), wants[i]);
        }
        for (int i : new int[] {-1, 3, 14, 64, MIN, MAX}) {
            b.due("asserted(" + i + ")", x.asserted(i), NONE);
        }
    }

    /** Promise 9: whether all assertions can be true at once: 1 or 0. */
    private static void checks(Bench b) {
        b.due("no assertion", Bench.court(NAMES).check(), 1);
        b.due("true", asserting("true").check(), 1);
        b.due("false", asserting("false").check(), 0);
        TheoryCourt x = asserting("(<= 0 x 1)", "(<= 0 y 1)", "(<= 0 z 1)", "(distinct x y)");
        b.due("each alone, and all at once", x.check(), 1);
        Bench.run(x, "(term (distinct y z))");
        b.due("a term is no assertion", x.check(), 1);
        Bench.run(x, "(assert (distinct y z))");
        b.due("two numbers for three", x.check(), 1);
        Bench.run(x, "(assert nix)");
        b.due("a refused one is none", x.check(), 1);
        Bench.run(x, "(assert (distinct x z))");
        b.due("no number is left", x.check(), 0);
        b.due("again", x.check(), 0);
    }

    /** Promise 10: NONE when there is no such term, or it is an array; else UNSAT without a model. */
    private static void valuesRefused(Bench b) {
        TheoryCourt sat = asserting("(= a b)", "(< x 3)");
        TheoryCourt unsat = asserting("(= a b)", "(< x 3)", "false");
        for (TheoryCourt x : new TheoryCourt[] {sat, unsat}) {
            for (int k : new int[] {-1, x.count(1), 64, MIN, MAX, 0, 1}) {
                b.due("value(" + k + ")", x.value(k), NONE);
            }
            for (int k = 2; k <= 5; k++) {
                b.due("value(" + k + ")", x.value(k) == UNSAT ? 1 : 0, x == unsat ? 1 : 0);
            }
        }
    }

    private static void value(Bench b, TheoryCourt x, String text, int want) {
        b.due("value of " + text, x.value(Bench.term(x, text)), want);
    }

    /** An INT UNIT is nearest to 0 (of two the one above 0). */
    private static void valuesOfInts(Bench b) {
        String[] texts = {"true", "(distinct x 0)", "(and (distinct x 0) (distinct x 1))", "(< x 0)", "(> x 0)", "(< x (- 3))", "(>= x 3)",
            "(or (= x 3) (= x (- 3)))", "(or (= x 4) (= x (- 3)))", "(or (= x 3) (= x (- 4)))", "(distinct x 0 1 (- 1) 2)",
            "(>= x 999999)", "(<= x (- 999999))", "(> (- x 999999) 999999)", "(< (+ x 999999) (- 999999))"};
        int[] wants = {0, 1, -1, -1, 1, -4, 3, 3, -3, 3, -2, 999999, -999999, 1999999, -1999999};
        for (int i = 0; i < texts.length; i++) {
            value(b, asserting(texts[i]), "x", wants[i]);
        }
        value(b, asserting("(> (f 7) 4)"), "(f 7)", 5);
        value(b, asserting("(< (select a (- 7)) (- 4))"), "(select a (- 7))", -5);
        value(b, asserting("(> (f 7) 4)"), "(f 8)", 0);
        TheoryCourt x = asserting("(> (f 7) 4)", "(= x 7)");
        value(b, x, "(f x)", 5);
    }

    /** A BOOL UNIT is false, if it can be. */
    private static void valuesOfBools(Bench b) {
        value(b, asserting("(or p q)"), "p", 0);
        value(b, asserting("(or p q)"), "q", 1);
        value(b, asserting("(or q p)"), "p", 1);
        value(b, asserting("p"), "p", 1);
        value(b, Bench.court(NAMES), "p", 0);
        value(b, asserting("(or (r 1 1 1) (r 1 1 2))"), "(r 1 1 1)", 0);
        value(b, asserting("(or (r 1 1 1) (r 1 1 2))"), "(r 1 1 2)", 1);
        value(b, asserting("(r 1 1 1)"), "(r 1 1 2)", 0);
        value(b, asserting("(r 1 1 1)", "(= x 1)"), "(r x x 1)", 1);
    }

    /** .. or EQUATION is false, if it can be: units first, then EQUATIONS by their terms' numbers. */
    private static void valuesOfEquations(Bench b) {
        value(b, Bench.court(NAMES), "(= a b)", 0);
        value(b, Bench.court(NAMES), "(distinct a b)", 1);
        value(b, Bench.court(NAMES), "(= a a)", 1);
        TheoryCourt x = asserting("(not (and (distinct a b) (distinct a c) (distinct b c)))");
        value(b, x, "(distinct a b)", 1);
        value(b, x, "(distinct a c)", 1);
        value(b, x, "(distinct b c)", 0);
        TheoryCourt y = asserting("(or (= b c) (= a b))");
        value(b, y, "(= b c)", 0);
        value(b, y, "(= a b)", 1);
        // The number, though it came later, is looked at before the equation.
        TheoryCourt z = asserting("(or (= a b) (> x 0))");
        value(b, z, "(= a b)", 1);
        value(b, z, "x", 0);
        TheoryCourt w = asserting("(or (= a b) p)");
        value(b, w, "(= a b)", 1);
        value(b, w, "p", 0);
        // Arrays may differ at a place that no term tells.
        TheoryCourt v = asserting("(= (select a 1) (select b 1))", "(= (select a 2) (select b 2))");
        value(b, v, "(= a b)", 0);
    }

    /** One after the other, by their terms' numbers, Int and Bool ones in one row. */
    private static void valuesInOrder(Bench b) {
        TheoryCourt x = asserting("(< x y)");
        value(b, x, "x", 0);
        value(b, x, "y", 1);
        TheoryCourt y = asserting("(> y x)");
        value(b, y, "x", -1);
        value(b, y, "y", 0);
        TheoryCourt z = Bench.court(NAMES);
        Bench.run(z, "(term z)");
        Bench.run(z, "(assert (< (+ x 5) y (+ z 3)))");
        value(b, z, "z", 0);
        value(b, z, "x", -4);
        value(b, z, "y", 2);
        TheoryCourt v = asserting("(= p (> x 0))", "(or p (= x 0) (= x (- 7)))", "(distinct x 0)");
        value(b, v, "p", 0);
        value(b, v, "x", -7);
        TheoryCourt w = asserting("(= (> x 0) p)", "(or p (= x 0) (= x (- 7)))", "(distinct x 0)");
        value(b, w, "x", 1);
        value(b, w, "p", 1);
        // A unit that comes later is weighed after those that were there.
        TheoryCourt u = asserting("(distinct x 0)", "(= (f 1) 3)");
        value(b, u, "x", 1);
        value(b, u, "(f x)", 3);
        value(b, u, "x", 1);
    }

    private static void valuesOfWholes(Bench b) {
        TheoryCourt x = asserting("(= x 5)", "p");
        value(b, x, "(+ x 7)", 12);
        value(b, x, "(- x 7)", -2);
        value(b, x, "(- 7)", -7);
        value(b, x, "(ite p x 9)", 5);
        value(b, x, "(ite (not p) x 9)", 9);
        value(b, x, "(< x 5)", 0);
        value(b, x, "(<= x 5)", 1);
        value(b, x, "true", 1);
        value(b, x, "false", 0);
        value(b, x, "(select (store a x 8) 5)", 8);
        value(b, x, "(= (store a 5 1) (store a x 1))", 1);
    }

    private static void core(Bench b, String want, String... texts) {
        TheoryCourt x = asserting(texts);
        StringBuilder got = new StringBuilder();
        for (int i = 0; i < texts.length; i++) {
            got.append(x.core(i));
        }
        b.due("core of " + String.join(" ", texts), got.toString(), want);
        b.due("behind the last", x.core(texts.length), NONE);
    }

    /** Promise 11: from the last assertion to the first, each is left out for good, if the others cannot all be true either. */
    private static void cores(Bench b) {
        core(b, "1", "false");
        core(b, "10", "false", "false");
        core(b, "100", "false", "p", "(not p)");
        core(b, "110", "p", "(not p)", "false");
        core(b, "0110", "q", "p", "(not p)", "q");
        core(b, "111", "(< x y)", "(< y z)", "(< z x)");
        core(b, "1110", "(< x y)", "(< y z)", "(< z x)", "(distinct p p)");
        core(b, "1100", "(= x 1)", "(= x 2)", "(= x 3)", "(= x 4)");
        core(b, "10001", "p", "q", "q", "q", "(not p)");
        core(b, "10100", "(not q)", "p", "q", "q", "(not p)");
        core(b, "11110000000000", "(<= 0 x 1)", "(<= 0 y 1)", "(<= 0 z 1)", "(distinct x y z)", "p", "q", "p", "q", "p", "(not p)", "true", "p", "q", "p");
        core(b, "11000000000000", "p", "(not p)", "p", "p", "p", "p", "p", "p", "p", "p", "p", "p", "p", "(not p)");
        core(b, "10000000000001", "p", "p", "p", "p", "p", "p", "p", "p", "p", "p", "p", "p", "p", "(not p)");
    }

    /** NONE when there is none such, or all can be true. */
    private static void coresRefused(Bench b) {
        TheoryCourt sat = asserting("p", "q");
        TheoryCourt unsat = asserting("p", "(not p)");
        for (int i : new int[] {-1, 2, 3, 14, 31, 32, 64, MIN, MAX}) {
            b.due("core(" + i + ")", sat.core(i), NONE);
            b.due("core(" + i + ")", unsat.core(i), NONE);
        }
        b.due("all can be true", sat.core(0), NONE);
        b.due("not all can be true", unsat.core(1), 1);
        b.due("without assertions", new TheoryCourt().core(0), NONE);
    }

    /** Promise 12: 1 in all, 0 in none, 2 in some. */
    private static void holds(Bench b) {
        TheoryCourt x = asserting("(<= 0 x 1)", "(=> p q)");
        String[] texts = {"(<= 0 x)", "(< x 2)", "(< x 1)", "(< x 0)", "(= x 0)", "(distinct x 2)", "(= x 2)", "p", "(=> p q)", "(and p (not q))",
            "true", "false", "(or (= x 0) (= x 1))", "(xor (= x 0) (= x 1))"};
        int[] wants = {1, 1, 2, 0, 2, 1, 0, 2, 1, 0, 1, 0, 1, 1};
        for (int i = 0; i < texts.length; i++) {
            TheoryCourt y = asserting("(<= 0 x 1)", "(=> p q)");
            b.due("holds of " + texts[i], y.holds(Bench.term(y, texts[i])), wants[i]);
        }
        b.due("an assertion's term", x.holds(x.asserted(0)), 1);
        Bench.run(x, "(assert (not p))");
        b.due("after one more", x.holds(Bench.term(x, "p")), 0);
    }

    /** NONE when there is none such (a Bool term); else UNSAT without a model. */
    private static void holdsRefused(Bench b) {
        TheoryCourt sat = asserting("(= a b)", "(< x 3)");
        TheoryCourt unsat = asserting("(= a b)", "(< x 3)", "false");
        for (TheoryCourt x : new TheoryCourt[] {sat, unsat}) {
            // 0 and 1 are arrays, 3 and 4 Ints.
            for (int k : new int[] {0, 1, 3, 4, -1, x.count(1), 64, MIN, MAX}) {
                b.due("holds(" + k + ")", x.holds(k), NONE);
            }
            b.due("holds(2)", x.holds(2), x == unsat ? UNSAT : 1);
            b.due("holds(5)", x.holds(5), x == unsat ? UNSAT : 1);
        }
    }

    private static void apart(Bench b, TheoryCourt x, String one, String other, long want) {
        b.due("apart of " + one + " and " + other, x.apart(Bench.term(x, one), Bench.term(x, other)), want);
    }

    /** Promise 13: how much greater term i is than term j at most; FAR when there is no bound. */
    private static void aparts(Bench b) {
        TheoryCourt x = asserting("(< x y)", "(<= y 9)");
        apart(b, x, "x", "x", 0);
        apart(b, x, "x", "y", -1);
        apart(b, x, "y", "x", FAR);
        apart(b, x, "x", "9", -1);
        apart(b, x, "x", "10", -2);
        apart(b, x, "9", "y", FAR);
        apart(b, x, "y", "0", 9);
        apart(b, x, "(+ y 3)", "(- y 4)", 7);
        apart(b, x, "3", "8", -5);
        apart(b, x, "x", "z", FAR);
        apart(b, x, "z", "z", 0);
        TheoryCourt y = asserting("(distinct x 5)", "(<= x 5)");
        apart(b, y, "x", "0", 4);
        apart(b, y, "(ite p x 7)", "0", 7);
        apart(b, y, "(f x)", "(f x)", 0);
        apart(b, y, "(f x)", "(f 4)", FAR);
        TheoryCourt z = asserting("(or (= x 1) (= x 8))", "(or (= y 2) (= y (- 9)))");
        apart(b, z, "x", "y", 17);
        apart(b, z, "y", "x", 1);
        TheoryCourt w = asserting("(<= (+ x 999999) (- y 999999))", "(<= (+ y 999999) (- z 999999))");
        apart(b, w, "x", "z", -3999996);
        apart(b, w, "(- x 999999)", "(+ z 999999)", -5999994);
    }

    /** -FAR when there are no such Int terms; else UNSAT without a model. */
    private static void apartsRefused(Bench b) {
        TheoryCourt sat = asserting("(= a b)", "(< x 3)");
        TheoryCourt unsat = asserting("(= a b)", "(< x 3)", "false");
        for (TheoryCourt x : new TheoryCourt[] {sat, unsat}) {
            for (int k : new int[] {0, 1, 2, 5, -1, x.count(1), 64, MIN, MAX}) {
                b.due("apart(" + k + ", 3)", x.apart(k, 3), -FAR);
                b.due("apart(3, " + k + ")", x.apart(3, k), -FAR);
                b.due("apart(" + k + ", " + k + ")", x.apart(k, k), -FAR);
            }
            b.due("apart(3, 4)", x.apart(3, 4), x == unsat ? UNSAT : -1);
            b.due("apart(4, 3)", x.apart(4, 3), x == unsat ? UNSAT : FAR);
            b.due("apart(4, 4)", x.apart(4, 4), x == unsat ? UNSAT : 0);
        }
    }

    /** Promise 14: as commands have it. */
    private static void written(Bench b) {
        String[][] texts = {{"0", "0"}, {"999999", "999999"}, {"(- 1)", "(- 1)"}, {"(- 999999)", "(- 999999)"}, {"(+ x 1)", "(+ x 1)"},
            {"(- x 1)", "(- x 1)"}, {"(+ x 999999)", "(+ x 999999)"}, {"(- x 999999)", "(- x 999999)"}, {"(+ x (- 10))", "(- x 10)"},
            {"(  <\tx\n100000 )", "(< x 100000)"}, {"(r x (- 5) y)", "(r x (- 5) y)"}, {"(let ((u p)) (=> u u))", "(=> p p)"},
            {"(distinct a (store a x (select a 10)))", "(distinct a (store a x (select a 10)))"}, {"(ite true x y)", "(ite true x y)"},
            {"(and p (or q) (xor p q) (not false))", "(and p (or q) (xor p q) (not false))"}, {"(>= x y)", "(>= x y)"},
            {"(<= (> x y) x)", ""}, {"(= (<= x y) (> x y))", "(= (<= x y) (> x y))"}, {"(+ (f (- x 2)) 20)", "(+ (f (- x 2)) 20)"}};
        for (String[] text : texts) {
            TheoryCourt x = Bench.court(NAMES);
            int k = Bench.term(x, text[0]);
            b.due("write of " + text[0], x.write(k), text[1].isEmpty() ? NONE : text[1].length());
            if (k >= 0) {
                b.due("text of " + text[0], Bench.written(x, k), text[1]);
                b.due("what is written is read as the same term", Bench.term(x, text[1]), k);
            }
        }
    }

    private static TheoryCourt longTexts(int lastLength) {
        return longTexts("n".repeat(lastLength));
    }

    /** A long text, and 1986 bytes of it are not the last part's. */
    private static TheoryCourt longTexts(String last) {
        // Each d is its part twice, and 7 bytes: 1, 9, 25, 57, 121, 249, 505, 1017.
        TheoryCourt x = Bench.court("(declare-const p Bool)", "(declare-const " + "n".repeat(14) + " Bool)",
            "(declare-const " + "n".repeat(15) + " Bool)", "(declare-const x Int)", "(declare-const xyzxyzxyz Int)",
            "(declare-fun f (Int Int) Bool)", "(define-fun d ((v Bool)) Bool (xor v v))");
        Bench.run(x, "(term (let ((b (d (d p)))) (let ((c (d b))) (let ((e (d c))) (let ((g (d e))) (let ((h (d g))) (let ((i (d h)))"
            + " (and i h g e c b " + last + "))))))))");
        return x;
    }

    /** It would have more than 2000 (OUT stays). */
    private static void writtenToTheLast(Bench b) {
        TheoryCourt x = longTexts(14);
        int k = x.count(1) - 1;
        b.due("2000 bytes", x.write(k), 2000);
        b.due("the first", x.out(0), '(');
        b.due("the last", x.out(1999), ')');
        b.due("before it", x.out(1998), 'n');
        b.due("none behind it", x.out(2000), NONE);
        TheoryCourt y = longTexts(15);
        k = y.count(1) - 1;
        b.due("2001 bytes, nothing written before", y.write(k), NONE);
        b.due("nothing is in OUT", y.out(0), NONE);
        y.write(0);
        b.due("2001 bytes", y.write(k), NONE);
        b.due("OUT stays", y.out(0), 'p');
        b.due("OUT stays", y.out(1), NONE);
        b.due("twice as many", y.write(Bench.term(y, "(d (and " + "p ".repeat(7) + "p))")), 2 * 21 + 7);
        TheoryCourt z = longTexts(14);
        k = z.count(1) - 1;
        b.due("2000 bytes", z.write(k), 2000);
        Bench.run(z, "(term (let ((b (d (d (d (d (d (d (d (d (d (d p))))))))))) ) (xor b b)))");
        b.due("thousands of bytes", z.write(z.count(1) - 1), NONE);
        b.due("OUT stays", z.out(1999), ')');
    }

    /** The same edge, for each form that a number has. */
    private static void writtenNumbers(Bench b) {
        String[][] texts = {{"(< x (- 9999))", "(< x (- 99999))"}, {"(< (- 9999) x)", "(< (- 99999) x)"},
            {"(< (+ x 99) x)", "(< (+ x 999) x)"}, {"(< x (- x 99))", "(< x (- x 999))"}, {"(>= x (+ x 9))", "(>= x (+ x 10))"},
            {"(<= x 9 99999)", "(<= x 9 100000)"}, {"(f x (- x 10))", "(f x (- x 100))"}, {"(distinct x 0)", "(distinct x 10)"},
            {"(f 100000 999)", "(f 100000 1000)"}, {"(f (- 1) 1000)", "(f (- 10) 1000)"}};
        for (String[] pair : texts) {
            TheoryCourt x = longTexts(pair[0]);
            b.due("write with " + pair[0], x.write(x.count(1) - 1), 2000);
            b.due("the last", x.out(1999), ')');
            TheoryCourt y = longTexts(pair[1]);
            b.due("write with " + pair[1], y.write(y.count(1) - 1), NONE);
            b.due("nothing is in OUT", y.out(0), NONE);
        }
    }

    /** Promise 15: byte i of OUT; NONE when there is none. */
    private static void outs(Bench b) {
        TheoryCourt x = asserting("(< x 3)");
        b.due("before a write", x.out(0), NONE);
        b.due("write", x.write(2), 7);
        String text = "(< x 3)";
        for (int i = 0; i < text.length(); i++) {
            b.due("out(" + i + ")", x.out(i), text.charAt(i));
        }
        for (int i : new int[] {-1, 7, 8, 1999, 2000, 2001, MIN, MAX}) {
            b.due("out(" + i + ")", x.out(i), NONE);
        }
        for (int k : new int[] {-1, 3, 64, MIN, MAX}) {
            b.due("write(" + k + ")", x.write(k), NONE);
            b.due("OUT stays", x.out(6), ')');
        }
        Bench.run(x, "(push)");
        Bench.run(x, "(term nix)");
        Bench.run(x, "(pop)");
        b.due("commands leave it", x.out(3), 'x');
        b.due("a shorter one", x.write(0), 1);
        b.due("has its byte", x.out(0), 'x');
        b.due("and no other", x.out(1), NONE);
        TheoryCourt y = Bench.court("(push)", "(declare-const gone Int)", "(term gone)");
        y.write(0);
        Bench.run(y, "(pop)");
        b.due("OUT stays when its term goes", y.out(3), 'e');
        b.due("the term is none any more", y.write(0), NONE);
    }

    /** Promise 16: byte i of symbol s's NAME, and what -1 .. -4 tell. NONE when there is none such. */
    private static void symbols(Bench b) {
        TheoryCourt x = Bench.court("(declare-const ABCDEFGHIJKLMNOP Bool)", "(declare-fun f (Int Int) Int)",
            "(define-fun d ((u Int) (v Bool) (w (Array Int Int))) (Array Int Int) w)");
        b.due("16 bytes", x.symbol(0, -1), 16);
        b.due("the first", x.symbol(0, 0), 'A');
        b.due("the last", x.symbol(0, 15), 'P');
        int[][] wants = {{16, 0, 1, 0}, {1, 2, 0, 0}, {1, 3, 2, 1}};
        for (int s = 0; s < 3; s++) {
            for (int i = 1; i <= 4; i++) {
                b.due("symbol(" + s + ", " + -i + ")", x.symbol(s, -i), wants[s][i - 1]);
            }
            for (int i : new int[] {-5, -6, wants[s][0], 16, 17, MIN, MAX}) {
                b.due("symbol(" + s + ", " + i + ")", x.symbol(s, i), NONE);
            }
        }
        for (int s : new int[] {-1, 3, 23, 24, MIN, MAX}) {
            for (int i : new int[] {-5, -4, -3, -2, -1, 0, 15}) {
                b.due("symbol(" + s + ", " + i + ")", x.symbol(s, i), NONE);
            }
        }
    }

    /** Promise 22: 1, with a model and without one. */
    private static void sures(Bench b) {
        String[][] all = {{}, {"true"}, {"false"}, {"p", "(not p)"}, {"(< x y)", "(= (f x) (f y))"}, {"(= a b)", "(distinct (select a x) (select b x))"},
            {"(distinct a b)", "(= (store a x 1) (store b x 1))"}};
        for (String[] texts : all) {
            TheoryCourt x = asserting(texts);
            b.due("sure of " + String.join(" ", texts), x.sure(), 1);
            x.check();
            x.core(0);
            x.value(0);
            b.due("again", x.sure(), 1);
            Bench.run(x, "(push)");
            Bench.run(x, "(assert (distinct z z))");
            b.due("without a model", x.sure(), 1);
            Bench.run(x, "(pop)");
            b.due("after pop", x.sure(), 1);
        }
    }

    /** What was answered once is answered by what is asserted now. */
    private static void askedAndChanged(Bench b) {
        TheoryCourt x = asserting("(> x 3)");
        b.due("value", x.value(0), 4);
        Bench.run(x, "(push)");
        b.due("value after push", x.value(0), 4);
        Bench.run(x, "(assert (> x 8))");
        b.due("value after assert", x.value(0), 9);
        Bench.run(x, "(pop)");
        b.due("value after pop", x.value(0), 4);
        Bench.run(x, "(term 5)");
        b.due("value of a term that came", x.value(3), 5);
        TheoryCourt y = Bench.court(NAMES);
        hold(b, y, "p", 2);
        Bench.run(y, "(push)");
        hold(b, y, "p", 2);
        Bench.run(y, "(assert p)");
        hold(b, y, "p", 1);
        Bench.run(y, "(pop)");
        hold(b, y, "p", 2);
        Bench.run(y, "(push)");
        Bench.run(y, "(assert (not p))");
        hold(b, y, "p", 0);
        Bench.run(y, "(pop)");
        hold(b, y, "p", 2);
        TheoryCourt z = asserting("p", "q");
        Bench.run(z, "(push)");
        Bench.run(z, "(assert (not p))");
        b.due("core(0)", z.core(0), 1);
        b.due("core(1)", z.core(1), 0);
        Bench.run(z, "(pop)");
        b.due("core after pop", z.core(0), NONE);
        Bench.run(z, "(assert (not q))");
        b.due("core(0)", z.core(0), 0);
        b.due("core(1)", z.core(1), 1);
        Bench.run(z, "(assert (and p (not p)))");
        b.due("core(3)", z.core(3), 0);
        TheoryCourt w = asserting("(<= x 5)");
        apart(b, w, "x", "0", 5);
        Bench.run(w, "(push)");
        Bench.run(w, "(assert (< x 2))");
        apart(b, w, "x", "0", 1);
        Bench.run(w, "(pop)");
        apart(b, w, "x", "0", 5);
    }

    /** No question leaves anything behind for the next one. */
    private static void askedOneAfterTheOther(Bench b) {
        TheoryCourt x = asserting("(distinct x 5)", "(or p q)");
        b.due("check", x.check(), 1);
        hold(b, x, "(= x 7)", 2);
        hold(b, x, "(= x 5)", 0);
        value(b, x, "x", 0);
        hold(b, x, "p", 2);
        Bench.run(x, "(term y)");
        value(b, x, "p", 0);
        apart(b, x, "x", "0", FAR);
        Bench.run(x, "(term z)");
        value(b, x, "x", 0);
        value(b, x, "q", 1);
        b.due("check", x.check(), 1);
        b.due("sure", x.sure(), 1);
        TheoryCourt y = asserting("p", "(< x 3)", "(not p)");
        b.due("core", y.core(1), 0);
        b.due("sure", y.sure(), 1);
        hold(b, y, "(< x 3)", UNSAT);
        b.due("check", y.check(), 0);
        b.due("core", y.core(2), 1);
    }

    private static void hold(Bench b, TheoryCourt x, String text, int want) {
        b.due("holds of " + text, x.holds(Bench.term(x, text)), want);
    }

    /** An object is used for at most 512 calls: the last of them answers as the first. */
    private static void lastCall(Bench b) {
        TheoryCourt x = new TheoryCourt();
        for (int i = 0; i < 250; i++) {
            x.feed(0x28707573, 0x68292020, BLANKS, BLANKS, BLANKS);
            x.run();
        }
        for (int i = 0; i < 9; i++) {
            b.due("count", x.count(3), 8);
        }
        x.feed(0x28706f70, 0x29202020, BLANKS, BLANKS, BLANKS);
        b.due("call 511", x.run(), 7);
        b.due("call 512", x.count(3), 7);
    }

    /** No number makes any call throw, and none of those that tell changes anything. */
    private static void wildNumbers(Bench b) {
        int[] wild = {MIN, MIN + 1, -65, -5, 65, 128, 1 << 16, MAX - 4, MAX};
        for (int i : wild) {
            TheoryCourt x = asserting("(< x 3)", "(or p q)");
            String before = Bench.seen(x);
            x.count(i);
            x.asserted(i);
            x.value(i);
            x.core(i);
            x.holds(i);
            x.write(i);
            x.out(i);
            x.literal(i);
            x.end(i);
            for (int j : wild) {
                x.term(i, j);
                x.apart(i, j);
                x.symbol(i, j);
                x.clause(i, j);
                x.step(j, i, j);
            }
            b.due("what is seen after calls with " + i, Bench.seen(x), before);
        }
    }
}
