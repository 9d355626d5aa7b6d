/** Promises 4 and 5 as far as SYNTAX goes: what texts are commands, and where they stop being some. */
public final class SyntaxTest {
    public static void main(String[] args) {
        Bench b = new Bench("SyntaxTest");
        tokens(b);
        commands(b);
        terms(b);
        limits(b);
        b.finish();
    }

    private static void syntax(Bench b, String text, int place) {
        b.fails(new TheoryCourt(), text, -3, place);
    }

    private static void tokens(Bench b) {
        TheoryCourt x = new TheoryCourt();
        b.runs(x, "\t\r\n (\tdeclare-const\nab_.!-+<>=9 Int\r) ", 0);
        b.runs(x, "(declare-const . Int)", 1);
        b.runs(x, "(declare-const -5 Int)", 2);
        b.runs(x, "(declare-const INT Int)", 3);
        b.runs(x, "(declare-const abcdefghijklmnop Int)", 4);
        syntax(b, "(declare-const abcdefghijklmnopq Int)", 15);
        b.runs(x, "(term 0)", 0);
        b.runs(x, "(term 999999)", 1);
        syntax(b, "(term 1000000)", 6);
        syntax(b, "(term 00)", 6);
        syntax(b, "(term 01)", 6);
        syntax(b, "(term 12a)", 6);
        syntax(b, "(term 1+2)", 6);
        syntax(b, "(term #)", 6);
        syntax(b, "(term ;)", 6);
        syntax(b, "(term \u000b0)", 6);
        syntax(b, "(term \u00e9)", 6);
    }

    private static void commands(Bench b) {
        syntax(b, "", 0);
        syntax(b, "   ", 3);
        syntax(b, "(", 1);
        syntax(b, "( ", 2);
        syntax(b, "push", 0);
        syntax(b, ")", 0);
        syntax(b, "()", 1);
        syntax(b, "(x)", 1);
        syntax(b, "(let)", 1);
        syntax(b, "(push", 5);
        syntax(b, "(push 1)", 6);
        syntax(b, "(push))", 6);
        syntax(b, "(push) #", 7);
        syntax(b, "(push) (pop)", 7);
        syntax(b, "(declare-const)", 14);
        syntax(b, "(declare-const x)", 16);
        syntax(b, "(declare-const let Int)", 15);
        syntax(b, "(declare-const 5 Int)", 15);
        syntax(b, "(declare-const x int)", 17);
        syntax(b, "(declare-const x (Array Int Bool))", 28);
        syntax(b, "(declare-const x (Int))", 18);
        syntax(b, "(declare-const x Int Int)", 21);
        syntax(b, "(declare-fun f Int)", 15);
        syntax(b, "(declare-fun f (x) Int)", 16);
        syntax(b, "(declare-fun f (Int Int)", 24);
        syntax(b, "(define-fun f (Int) Int 1)", 15);
        syntax(b, "(define-fun f ((x)) Int 1)", 17);
        syntax(b, "(define-fun f ((Int Int)) Int 1)", 16);
        syntax(b, "(define-fun f ((x Int) y) Int 1)", 23);
        syntax(b, "(define-fun f () Int)", 20);
        syntax(b, "(define-fun f () Int 1 2)", 23);
        syntax(b, "(assert)", 7);
        syntax(b, "(assert true true)", 13);
        syntax(b, "(term push)", 6);
    }

    private static void terms(Bench b) {
        syntax(b, "(term Int)", 6);
        syntax(b, "(term and)", 6);
        syntax(b, "(term ())", 7);
        syntax(b, "(term (and))", 10);
        syntax(b, "(term (f))", 8);
        syntax(b, "(term (5 1))", 7);
        syntax(b, "(term (true 1))", 7);
        syntax(b, "(term ((f) 1))", 7);
        syntax(b, "(term (let () 1))", 12);
        syntax(b, "(term (let (x 1) 1))", 12);
        syntax(b, "(term (let ((x)) 1))", 14);
        syntax(b, "(term (let ((1 x)) 1))", 13);
        syntax(b, "(term (let ((x 1 2)) 1))", 17);
        syntax(b, "(term (let ((x 1) y) 1))", 18);
        syntax(b, "(term (let ((x 1))))", 18);
        syntax(b, "(term (let ((x 1)) x x))", 21);
        syntax(b, "(term (let ((and 1)) 1))", 13);
        TheoryCourt x = new TheoryCourt();
        b.runs(x, "(term (let ((x 1) (y 2)) (let ((x y) (y x)) (+ x x y))))", 2);
        b.due("let binds side by side", x.term(2, 2), 5);
    }

    private static void limits(Bench b) {
        b.runs(new TheoryCourt(), "(term (and true true true true true true true true))", 1);
        syntax(b, "(term (and true true true true true true true true false))", 51);
        syntax(b, "(term (f 1 1 1 1 1 1 1 1 (+))", 25);
        syntax(b, "(term (and true true true true true true true true", 50);
        String deep = "(term " + Bench.repeat("(not ", 19) + "true" + Bench.repeat(")", 20);
        b.runs(new TheoryCourt(), deep, 19);
        String deeper = "(term " + Bench.repeat("(not ", 20) + "true" + Bench.repeat(")", 21);
        syntax(b, deeper, 6 + 5 * 19);
        // 5 tokens, 4 for each of 97 NAMES, one, then 4 or 5, and two.
        String head = "(term (let (" + Bench.repeat("(x 0)", 97) + ") ";
        b.fails(new TheoryCourt(), head + "(- 1)))", -102, 18);
        syntax(b, head + "(+ 1 1)))", head.length() + 8);
        syntax(b, head + "(- 1))) )", head.length() + 8);
        syntax(b, head + "(- 1))) #", head.length() + 8);
        b.fails(new TheoryCourt(), head + "(- 1)))   ", -102, 18);
    }
}
