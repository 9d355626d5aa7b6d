import java.util.Random;

/** No call throws, whatever comes: wild bytes, wild numbers, broken commands, in any order. */
public final class SturdyTest {
    private static final String[] BITS = {"(", ")", "(", ")", "declare-const", "declare-fun", "define-fun", "assert", "term",
        "push", "pop", "let", "ite", "select", "store", "and", "or", "not", "xor", "true", "false", "distinct", "Int",
        "Bool", "Array", "=", "=>", "<", "<=", ">", ">=", "+", "-", "x", "y", "p", "a", "f", "r", "d", "n", "0", "1", "7", "999999",
        "0123", "#", "(assert (", "(term (", "(let ((", "(Array Int Int)"};
    private static final String[] GOOD = {"(declare-const x Int)", "(declare-const y Int)", "(declare-const p Bool)",
        "(declare-const a (Array Int Int))", "(declare-fun f (Int) Int)", "(declare-fun r (Int) Bool)",
        "(define-fun d ((n Int)) Int (+ n 1))", "(assert (or p (< x (d y))))", "(assert (= (f x) (select a y)))",
        "(assert (distinct x y 3))", "(assert (r (f (ite p x y))))", "(assert (= a (store a x y)))", "(assert (not p))",
        "(term (= x y))", "(term (= (f x) (f y)))", "(push)", "(pop)", "(assert (< (f y) (- x 5)))"};
    private static final int[] WILD = {Integer.MIN_VALUE, Integer.MAX_VALUE, -1, -2, 64, 63, 1000};

    public static void main(String[] args) {
        Bench b = new Bench("SturdyTest");
        for (int seed = 0; seed < 300; seed++) {
            b.due("run " + seed, play(new Random(seed)), 512);
        }
        b.finish();
    }

    private static int play(Random r) {
        TheoryCourt x = new TheoryCourt();
        int calls = 0;
        for (int i = 0; i < 512; i++) {
            call(x, r);
            calls++;
        }
        return calls;
    }

    private static int any(Random r) {
        return r.nextInt(12) == 0 ? WILD[r.nextInt(WILD.length)] : r.nextInt(40) - 2;
    }

    private static void call(TheoryCourt x, Random r) {
        switch (r.nextInt(26)) {
            case 0: x.feed(r.nextInt(), r.nextInt(), r.nextInt(), r.nextInt(), r.nextInt()); break;
            case 1: x.end(any(r)); break;
            case 2: x.run(); break;
            case 3: x.place(); break;
            case 4: x.count(any(r)); break;
            case 5: x.term(any(r), any(r)); break;
            case 6: x.asserted(any(r)); break;
            case 7: x.check(); break;
            case 8: x.value(any(r)); break;
            case 9: x.core(any(r)); break;
            case 10: x.holds(any(r)); break;
            case 11: x.apart(any(r), any(r)); break;
            case 12: x.write(any(r)); break;
            case 13: x.out(any(r)); break;
            case 14: x.symbol(any(r), any(r)); break;
            case 15: x.literal(any(r)); break;
            case 16: x.step(r.nextInt(12) - 1, any(r), any(r)); break;
            case 17: x.clear(); break;
            case 18: x.clause(any(r), any(r)); break;
            case 19: x.refuted(); break;
            case 20: x.sure(); break;
            case 21: Bench.run(x, noise(r)); break;
            default: Bench.run(x, GOOD[r.nextInt(GOOD.length)]); break;
        }
    }

    private static String noise(Random r) {
        StringBuilder text = new StringBuilder();
        int count = r.nextInt(60);
        for (int i = 0; i < count; i++) {
            text.append(BITS[r.nextInt(BITS.length)]).append(r.nextInt(9) == 0 ? "" : " ");
        }
        return text.toString();
    }
}
