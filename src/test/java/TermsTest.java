/** Promises 6 to 8 and 14 to 16: count, term, asserted, write, out, symbol. */
public final class TermsTest {
    private static final String[] NAMES = {
        "(declare-const x Int)", "(declare-const p Bool)", "(declare-const a (Array Int Int))",
        "(declare-fun f (Int Int) Int)", "(declare-fun r (Int) Bool)", "(declare-fun k () Int)",
        "(define-fun d ((n Int) (c Bool) (t (Array Int Int))) (Array Int Int) (ite c (store t n 1) t))"};

    public static void main(String[] args) {
        Bench b = new Bench("TermsTest");
        counts(b);
        terms(b);
        sharing(b);
        levels(b);
        texts(b);
        longTexts(b);
        symbols(b);
        b.finish();
    }

    private static void counts(Bench b) {
        TheoryCourt x = Bench.court(NAMES);
        Bench.run(x, "(push)");
        Bench.run(x, "(assert (= a (d x p a)))");
        Bench.run(x, "(assert (distinct x k (f x k) (select a (f x x))))");
        Bench.run(x, "(assert (r (ite p x k)))");
        long[] want = {7, 14, 3, 1, 5, 2, 3, 2, 1, 6};
        for (int i = 0; i < want.length; i++) {
            b.due("count(" + i + ")", x.count(i), want[i]);
        }
        b.due("count(10)", x.count(10), -1);
        b.due("count(-1)", x.count(-1), -1);
        b.due("count(MAX)", x.count(Integer.MAX_VALUE), -1);
        b.due("count(MIN)", x.count(Integer.MIN_VALUE), -1);
        Bench.term(x, "(= a a a)");
        b.due("EQUATIONS of one with itself", x.count(8), 3);
    }

    private static void terms(Bench b) {
        TheoryCourt x = Bench.court(NAMES);
        String[] texts = {"7", "x", "(f x 7)", "a", "(select a x)", "p", "(ite p x 7)", "(+ x 2)", "(store a x 7)", "true",
            "false", "(not p)", "(and p)", "(or p p)", "(xor p p)", "(=> p p p)", "(= a a)", "(distinct p p)",
            "(< x 7)", "(<= x 7)", "(> x 7)", "(>= x 7 x)", "(- 7)", "(- x 9)", "k"};
        int[] kinds = {0, 1, 2, 1, 3, 1, 4, 5, 6, 7, 8, 9, 10, 11, 12, 13, 14, 15, 16, 17, 18, 19, 0, 5, 1};
        int[] sorts = {0, 0, 0, 2, 0, 1, 0, 0, 2, 1, 1, 1, 1, 1, 1, 1, 1, 1, 1, 1, 1, 1, 0, 0, 0};
        int[] numbers = {7, 0, 3, 2, -1, 1, -1, 2, -1, -1, -1, -1, -1, -1, -1, -1, -1, -1, -1, -1, -1, -1, -7, -9, 5};
        int[] parts = {0, 0, 2, 0, 2, 0, 3, 1, 3, 0, 0, 1, 1, 2, 2, 3, 2, 2, 2, 2, 2, 3, 0, 1, 0};
        for (int i = 0; i < texts.length; i++) {
            int t = Bench.term(x, texts[i]);
            b.due("kind of " + texts[i], x.term(t, 0), kinds[i]);
            b.due("sort of " + texts[i], x.term(t, 1), sorts[i]);
            b.due("number of " + texts[i], x.term(t, 2), numbers[i]);
            b.due("parts of " + texts[i], x.term(t, 3), parts[i]);
            b.due("no part of " + texts[i], x.term(t, 4 + parts[i]), -1);
            b.due("write of " + texts[i], Bench.written(x, t), texts[i]);
        }
        int t = Bench.term(x, "(store a x 7)");
        b.due("part 0", x.term(t, 4), Bench.term(x, "a"));
        b.due("part 1", x.term(t, 5), Bench.term(x, "x"));
        b.due("part 2", x.term(t, 6), Bench.term(x, "7"));
        b.due("part 3", x.term(t, 7), -1);
        b.due("what = -1", x.term(t, -1), -1);
        b.due("what = MIN", x.term(t, Integer.MIN_VALUE), -1);
        b.due("what = MAX", x.term(t, Integer.MAX_VALUE), -1);
        b.due("term -1", x.term(-1, 0), -1);
        b.due("term 64", x.term(64, 0), -1);
        b.due("the term after the last", x.term(x.count(1), 0), -1);
        b.due("term MAX", x.term(Integer.MAX_VALUE, 3), -1);
    }

    private static void sharing(Bench b) {
        TheoryCourt x = Bench.court(NAMES);
        b.due("parts come first, from the left", Bench.term(x, "(f (+ x 1) (f x k))"), 5);
        int[] kinds = {1, 0, 5, 1, 2, 2};
        for (int i = 0; i < kinds.length; i++) {
            b.due("kind of " + i, x.term(i, 0), kinds[i]);
        }
        b.due("the same term", Bench.term(x, "(f (+ 1 x) (f x k))"), 5);
        b.due("another order", Bench.term(x, "(f (f x k) (+ x 1))"), 6);
        b.due("how many", x.count(1), 7);
    }

    private static void levels(Bench b) {
        TheoryCourt x = Bench.court(NAMES);
        Bench.run(x, "(assert p)");
        Bench.run(x, "(push)");
        Bench.run(x, "(declare-const y Int)");
        Bench.run(x, "(assert (< x y))");
        b.due("asserted(0)", x.asserted(0), 0);
        b.due("asserted(1)", x.asserted(1), 3);
        b.due("asserted(2)", x.asserted(2), -1);
        b.due("asserted(-1)", x.asserted(-1), -1);
        b.due("asserted(MAX)", x.asserted(Integer.MAX_VALUE), -1);
        Bench.run(x, "(pop)");
        b.due("asserted(1) after pop", x.asserted(1), -1);
        b.due("symbols", x.count(0), 7);
        b.due("terms", x.count(1), 1);
        b.due("assertions", x.count(2), 1);
        b.due("COMPARISONS", x.count(9), 0);
        b.due("INT UNITS", x.count(4), 0);
        b.due("BOOL UNITS", x.count(5), 1);
    }

    private static void texts(Bench b) {
        TheoryCourt x = Bench.court(NAMES);
        b.due("write of no term", x.write(0), -1);
        int t = Bench.term(x, "(=> (r (- x 12)) (= (f (- 999999) 0) (select (d k true a) (+ k 120))))");
        String text = "(=> (r (- x 12)) (= (f (- 999999) 0) (select (ite true (store a k 1) a) (+ k 120))))";
        b.due("write", x.write(t), text.length());
        b.due("its bytes", Bench.written(x, t), text);
        b.due("out(-1)", x.out(-1), -1);
        b.due("out behind the last", x.out(text.length()), -1);
        b.due("out(MAX)", x.out(Integer.MAX_VALUE), -1);
        b.due("out(MIN)", x.out(Integer.MIN_VALUE), -1);
        b.due("write of no term", x.write(-1), -1);
        b.due("OUT stays", x.out(0), '(');
        x.write(Bench.term(x, "k"));
        b.due("a short text takes the place of a long one", x.out(1), -1);
        Bench.run(x, "(push)");
        b.due("OUT stays", x.out(0), 'k');
    }

    private static void longTexts(Bench b) {
        TheoryCourt x = Bench.court("(declare-const p Bool)");
        int[] lengths = new int[16];
        String text = "p";
        int t = Bench.term(x, text);
        int length = 1;
        for (int i = 0; i < 15; i++) {
            text = "(let ((v " + text + ")) (xor v v))";
            if (i > 5) {
                break;
            }
            t = Bench.term(x, text);
            length = 2 * length + 7;
            lengths[i] = length;
            b.due("write of " + i, x.write(t), length);
        }
        b.due("the last byte", x.out(length - 1), ')');
        t = Bench.run(x, "(define-fun dup ((v Bool)) Bool (xor v v))");
        int big = Bench.term(x, "(let ((v " + nested("p", 8) + ")) v)");
        b.due("2041 bytes", x.write(big), -1);
        b.due("OUT stays", x.out(length - 1), ')');
        int one = Bench.term(x, "(and " + nested("p", 6) + " " + nested("p", 6) + " " + nested("p", 6) + " "
            + nested("p", 5) + " " + nested("p", 2) + " " + nested("p", 2) + " p p)");
        int size = 5 + 3 * (505 + 1) + 249 + 1 + 2 * (25 + 1) + 3 + 1;
        b.due("write of a long one", x.write(one), size);
    }

    private static String nested(String text, int times) {
        return times == 0 ? text : "(dup " + nested(text, times - 1) + ")";
    }

    private static void symbols(Bench b) {
        TheoryCourt x = Bench.court(NAMES);
        Bench.run(x, "(declare-const abc!-_.+<>=9AZz Int)");
        String name = "abc!-_.+<>=9AZz";
        b.due("length", x.symbol(7, -1), name.length());
        for (int i = 0; i < name.length(); i++) {
            b.due("byte " + i, x.symbol(7, i), name.charAt(i));
        }
        b.due("behind the last byte", x.symbol(7, name.length()), -1);
        int[] takes = {0, 0, 0, 2, 1, 0, 3, 0};
        int[] sorts = {0, 1, 2, 0, 1, 0, 2, 0};
        int[] defined = {0, 0, 0, 0, 0, 0, 1, 0};
        for (int s = 0; s < 8; s++) {
            b.due("takes " + s, x.symbol(s, -2), takes[s]);
            b.due("sort " + s, x.symbol(s, -3), sorts[s]);
            b.due("defined " + s, x.symbol(s, -4), defined[s]);
        }
        b.due("symbol 8", x.symbol(8, -1), -1);
        b.due("symbol -1", x.symbol(-1, -1), -1);
        b.due("symbol MAX", x.symbol(Integer.MAX_VALUE, 0), -1);
        b.due("-5", x.symbol(0, -5), -1);
        b.due("MIN", x.symbol(0, Integer.MIN_VALUE), -1);
        b.due("MAX", x.symbol(0, Integer.MAX_VALUE), -1);
    }
}
