/** The document's FAULTS 1 to 6 and 8: of each sentence what is still taken, what is not, at which place, and which comes first. */
public final class FaultEdgeTest {
    private static final String[] NAMES = {
        "(declare-const x Int)", "(declare-const y Int)", "(declare-const p Bool)", "(declare-const a (Array Int Int))",
        "(declare-fun f (Int) Int)", "(declare-fun g (Int Int Int) Bool)", "(declare-fun c () Int)",
        "(define-fun two () Int 2)", "(define-fun up ((n Int)) Int (+ n 999990))",
        "(define-fun pick ((t (Array Int Int)) (k Int) (s Bool)) Int (ite s (select t k) k))", "(assert (< x 3))"};

    public static void main(String[] args) {
        Bench b = new Bench("FaultEdgeTest");
        unknownNames(b);
        namesOfFunctions(b);
        namesWithoutTerms(b);
        namesThatThereAre(b);
        parametersTwice(b);
        letTwice(b);
        sortsOfOps(b);
        sortsOfNames(b);
        sortsOfWholes(b);
        sortsOfFunctions(b);
        countsOfOps(b);
        countsOfNames(b);
        countsOfSorts(b);
        sumsOtherwise(b);
        numbersBeyond(b);
        popWithoutPush(b);
        partsFirst(b);
        orderWithinOne(b);
        orderOfDeclarations(b);
        placesInDefinitions(b);
        placesWithBlanks(b);
        b.finish();
    }

    private static TheoryCourt court() {
        TheoryCourt x = Bench.court(NAMES);
        x.literal(5);
        return x;
    }

    private static void fault(Bench b, String text, int fault, int place) {
        b.refuses(court(), text, -100 - fault, place);
        b.fails(Bench.worn(NAMES), text, -100 - fault, place);
    }

    /** A term with a fault, told without the command around it; its place is one in the term. */
    private static void wrong(Bench b, String term, int fault, int place) {
        fault(b, "(term " + term + ")", fault, 6 + place);
    }

    private static void right(Bench b, String term, String written) {
        for (TheoryCourt x : new TheoryCourt[] {court(), Bench.worn(NAMES)}) {
            int t = Bench.term(x, term);
            b.due("term " + term, t >= 0 ? 1 : 0, 1);
            b.due("write of " + term, Bench.written(x, t), written);
        }
    }

    /** 1 a NAME that there is not (at it, ahead of the terms behind it). */
    private static void unknownNames(Bench b) {
        wrong(b, "nix", 1, 0);
        wrong(b, "X", 1, 0);
        wrong(b, "xx", 1, 0);
        wrong(b, "n", 1, 0);
        wrong(b, "(nix x)", 1, 1);
        wrong(b, "(nix nox)", 1, 1);
        wrong(b, "(nix (+ p 1))", 1, 1);
        wrong(b, "(nix f)", 1, 1);
        wrong(b, "(f nix)", 1, 3);
        wrong(b, "(f (nix (nox 1)))", 1, 4);
        wrong(b, "(let ((u nix) (v nox)) u)", 1, 9);
        wrong(b, "(let ((u 1) (v u)) u)", 1, 15);
        wrong(b, "(let ((u 1)) (let ((v 2)) (+ u v w)))", 1, 33);
        wrong(b, "(+ (let ((u 1)) u) u)", 1, 19);
        right(b, "(let ((nix 4)) nix)", "4");
        fault(b, "(assert nix)", 1, 8);
        fault(b, "(define-fun d ((u Int)) Int v)", 1, 28);
        fault(b, "(define-fun d ((u Int)) Int d)", 1, 28);
        fault(b, "(define-fun d ((u Int)) Int (d u))", 1, 29);
        fault(b, "(define-fun d () Int d)", 1, 21);
    }

    /** ( NAME terms ), NAME being a symbol's whatever let says. */
    private static void namesOfFunctions(Bench b) {
        wrong(b, "(let ((u 1)) (u 1))", 1, 14);
        right(b, "(let ((f 1)) (f f))", "(f 1)");
        right(b, "(let ((f p)) (f 1))", "(f 1)");
        right(b, "(let ((two 1)) two)", "1");
        fault(b, "(define-fun d ((u Int)) Int (u 1))", 1, 29);
        TheoryCourt x = court();
        b.runs(x, "(define-fun d ((f Int)) Int (f f))", 10);
        b.due("write", Bench.written(x, Bench.term(x, "(d 4)")), "(f 4)");
    }

    /** A NAME without terms that takes some: 4. */
    private static void namesWithoutTerms(Bench b) {
        wrong(b, "f", 4, 0);
        wrong(b, "g", 4, 0);
        wrong(b, "up", 4, 0);
        wrong(b, "pick", 4, 0);
        wrong(b, "(f f)", 4, 3);
        right(b, "c", "c");
        right(b, "two", "2");
        right(b, "(let ((f 3)) f)", "3");
    }

    /** 2 a NAME that there is, to be declared (at it). */
    private static void namesThatThereAre(Bench b) {
        String[] there = {"x", "p", "a", "f", "g", "c", "two", "up", "pick"};
        for (String name : there) {
            fault(b, "(declare-const " + name + " Int)", 2, 15);
            fault(b, "(declare-fun " + name + " () Int)", 2, 13);
            fault(b, "(define-fun " + name + " () Int 1)", 2, 12);
        }
        TheoryCourt x = court();
        b.runs(x, "(declare-const n Int)", 10);
        b.runs(x, "(declare-const F Int)", 11);
        b.runs(x, "(push)", 1);
        b.refuses(x, "(declare-const n Int)", -102, 15);
        TheoryCourt y = court();
        b.runs(y, "(push)", 1);
        b.runs(y, "(declare-const n Int)", 10);
        b.runs(y, "(pop)", 0);
        b.runs(y, "(declare-fun n (Int) Bool)", 10);
    }

    /** 2 twice among parameters (at it); a parameter may have any other NAME. */
    private static void parametersTwice(Bench b) {
        fault(b, "(define-fun d ((u Int) (u Int)) Int 1)", 2, 24);
        fault(b, "(define-fun d ((u Int) (v Int) (u Int)) Int 1)", 2, 32);
        fault(b, "(define-fun d ((v Int) (u Int) (u Bool)) Int 1)", 2, 32);
        fault(b, "(define-fun d ((u Int) (u Int) (u Int)) Int 1)", 2, 24);
        b.runs(court(), "(define-fun d ((u Int) (U Int) (uu Int)) Int 1)", 10);
        b.runs(court(), "(define-fun d ((x Bool) (f Int) (d Int)) Bool (and x (= f d)))", 10);
    }

    /** 2 twice in one let (at it, ahead of its term); an inner let may have it again. */
    private static void letTwice(Bench b) {
        wrong(b, "(let ((u 1) (u 2)) u)", 2, 13);
        wrong(b, "(let ((u 1) (v 2) (u 3)) u)", 2, 19);
        wrong(b, "(let ((u 1) (v 2) (v 3) (u 4)) u)", 2, 19);
        wrong(b, "(let ((u 1) (u nix)) nox)", 2, 13);
        wrong(b, "(let ((u nix) (u 1)) u)", 1, 9);
        wrong(b, "(let ((u 1) (v nix) (u 1)) u)", 1, 15);
        wrong(b, "(let ((u (let ((w 1) (w 2)) w)) (u 2)) u)", 2, 22);
        right(b, "(let ((u 1) (v (let ((u 2)) u))) (+ u v))", "3");
        right(b, "(let ((u 1)) (let ((u 2)) u))", "2");
        right(b, "(let ((u 1) (U 2)) (- u U))", "(- 1)");
        right(b, "(let ((x 8)) x)", "8");
        fault(b, "(define-fun d ((u Int)) Int (let ((v 1) (v 2)) v))", 2, 41);
        b.runs(court(), "(define-fun d ((u Int)) Int (let ((u 1)) u))", 10);
    }

    /** 3 sorts of a part that an OP does not take (at the OP). */
    private static void sortsOfOps(Bench b) {
        String[] fits = {"(ite p x y)", "(ite p p p)", "(ite p a a)", "(select a x)", "(store a x y)", "(and p p)", "(or p p)",
            "(not p)", "(xor p p)", "(=> p p)", "(= x y)", "(= p p)", "(= a a)", "(distinct x y)", "(distinct p p)",
            "(distinct a a)", "(< x y)", "(<= x y)", "(> x y)", "(>= x y)", "(+ x 1)", "(- x 1)"};
        for (String text : fits) {
            right(b, text, text);
        }
        String[] wrongs = {"(ite x x x)", "(ite a x x)", "(ite p x p)", "(ite p p x)", "(ite p a x)", "(ite p x a)", "(ite p a p)",
            "(select x x)", "(select p x)", "(select a p)", "(select a a)", "(store x x x)", "(store p x x)", "(store a p x)",
            "(store a x p)", "(store a a x)", "(store a x a)", "(and x)", "(and p x)", "(and p p a)", "(or a)", "(or x p)",
            "(not x)", "(not a)", "(not 1)", "(xor p x)", "(xor x p)", "(=> p x)", "(=> x p)", "(=> p p p a)", "(= x p)", "(= p x)",
            "(= a x)", "(= x x a)", "(= p p p p p p p x)", "(distinct x p)", "(distinct a a p)", "(distinct p p a)", "(< p p)",
            "(< x p)", "(< a a)", "(<= x x p)", "(> p x)", "(>= x a)", "(+ x p)", "(+ p 1)", "(+ 1 a)", "(+ 1 1 p)", "(- p)", "(- a)",
            "(- x p)", "(- p 1)", "(- 1 a)"};
        for (String text : wrongs) {
            wrong(b, text, 3, 1);
        }
    }

    /** 3 sorts of a part that a NAME does not take (at the NAME). */
    private static void sortsOfNames(Bench b) {
        wrong(b, "(f p)", 3, 1);
        wrong(b, "(f a)", 3, 1);
        wrong(b, "(g p x x)", 3, 1);
        wrong(b, "(g x x p)", 3, 1);
        wrong(b, "(up p)", 3, 1);
        wrong(b, "(pick a x x)", 3, 1);
        wrong(b, "(pick a p p)", 3, 1);
        wrong(b, "(pick x x p)", 3, 1);
        wrong(b, "(f (f p))", 3, 4);
        right(b, "(g x 1 (f x))", "(g x 1 (f x))");
        right(b, "(pick a x p)", "(ite p (select a x) x)");
    }

    /** 3 of what define-fun, assert (Bool) should be (at the term's first token); term takes any. */
    private static void sortsOfWholes(Bench b) {
        fault(b, "(assert x)", 3, 8);
        fault(b, "(assert 1)", 3, 8);
        fault(b, "(assert a)", 3, 8);
        fault(b, "(assert  (+ x 1))", 3, 9);
        fault(b, "(assert (let ((u p)) x))", 3, 8);
        fault(b, "(assert two)", 3, 8);
        fault(b, "(define-fun d () Bool 1)", 3, 22);
        fault(b, "(define-fun d () Int p)", 3, 21);
        fault(b, "(define-fun d () Int (= x 1))", 3, 21);
        fault(b, "(define-fun d () (Array Int Int) 1)", 3, 33);
        fault(b, "(define-fun d ((u (Array Int Int))) Int u)", 3, 40);
        b.runs(court(), "(assert (let ((u x)) p))", 1);
        b.runs(court(), "(term x)", 0);
        b.runs(court(), "(term a)", 3);
        b.runs(court(), "(define-fun d ((u (Array Int Int))) (Array Int Int) u)", 10);
    }

    /** 3 of declare-fun: takes other than Int, or gives ( Array Int Int ) (at the sort's first token). */
    private static void sortsOfFunctions(Bench b) {
        fault(b, "(declare-fun h (Bool) Int)", 3, 16);
        fault(b, "(declare-fun h (Int Bool) Int)", 3, 20);
        fault(b, "(declare-fun h (Int Int Bool) Int)", 3, 24);
        fault(b, "(declare-fun h ((Array Int Int) Bool) Int)", 3, 16);
        fault(b, "(declare-fun h (Int (Array Int Int)) (Array Int Int))", 3, 20);
        fault(b, "(declare-fun h (Int) (Array Int Int))", 3, 21);
        fault(b, "(declare-fun h (Int Int Int) (Array Int Int))", 3, 29);
        b.runs(court(), "(declare-fun h (Int Int Int) Bool)", 10);
        b.runs(court(), "(declare-fun h (Int) Int)", 10);
        b.runs(court(), "(declare-fun h () (Array Int Int))", 10);
        b.runs(court(), "(declare-fun h () Bool)", 10);
        b.runs(court(), "(declare-const h (Array Int Int))", 10);
        b.runs(court(), "(define-fun h ((u Bool) (v (Array Int Int)) (w Int)) Bool u)", 10);
    }

    /** 4 how many parts (at the OP): one too few, and one too many where there is a most. */
    private static void countsOfOps(Bench b) {
        String[] wrongs = {"(ite p)", "(ite p x)", "(ite p x x x)", "(select a)", "(select a x x)", "(store a)", "(store a x)",
            "(store a x x x)", "(not p p)", "(xor p)", "(=> p)", "(= x)", "(= p)", "(= a)", "(distinct x)", "(distinct a)", "(< x)",
            "(<= x)", "(> x)", "(>= x)", "(+ x)", "(+ 1)", "(- x 1 1)", "(- 1 1 1)", "(- 1 1 1 1 1 1 1 1)", "(not p p p p p p p p)"};
        for (String text : wrongs) {
            wrong(b, text, 4, 1);
        }
        String[] fits = {"(and p)", "(or p)", "(and p p p p p p p p)", "(or p p p p p p p p)", "(xor p p p p p p p p)",
            "(=> p p p p p p p p)", "(= x x x x x x x x)", "(= p p p p p p p p)", "(distinct p p p p p p p p)", "(= a a a a)",
            "(distinct a a a)", "(distinct x x x x x)", "(< x x x x x x x x)", "(<= x x x x x x x x)", "(> x x x x x x x x)",
            "(>= x x x x x x x x)"};
        for (String text : fits) {
            right(b, text, text);
        }
        right(b, "(+ x 1 1 1 1 1 1 1)", "(+ x 7)");
        right(b, "(- 4)", "(- 4)");
    }

    /** 4 how many parts (at the NAME). */
    private static void countsOfNames(Bench b) {
        String[] wrongs = {"(x 1)", "(p 1)", "(a 1)", "(c 1)", "(two 1)", "(f 1 1)", "(g 1)", "(g 1 1)", "(g 1 1 1 1)", "(up 1 1)",
            "(pick a)", "(pick a 1)", "(pick a 1 p p)", "(f 1 1 1 1 1 1 1 1)"};
        for (String text : wrongs) {
            wrong(b, text, 4, 1);
        }
        right(b, "(g 1 1 1)", "(g 1 1 1)");
        right(b, "(up 1)", "999991");
    }

    /** 4 more than 3 sorts or parameters (at the fourth's first token). */
    private static void countsOfSorts(Bench b) {
        fault(b, "(declare-fun h (Int Int Int Int) Int)", 4, 28);
        fault(b, "(declare-fun h (Int Int Int Int Int) Int)", 4, 28);
        fault(b, "(declare-fun h (Int Int Int (Array Int Int)) Int)", 4, 28);
        fault(b, "(define-fun h ((u Int) (v Int) (w Int) (z Int)) Int 1)", 4, 39);
        fault(b, "(define-fun h ((u Int) (v Int) (w Int) (z Int) (t Int)) Int 1)", 4, 39);
        b.runs(court(), "(declare-fun h (Int Int Int) Int)", 10);
        b.runs(court(), "(define-fun h ((u Int) (v Int) (w Int)) Int 1)", 10);
    }

    /** 5 + - otherwise than told (at it). */
    private static void sumsOtherwise(Bench b) {
        String[] wrongs = {"(+ x y)", "(+ x x)", "(+ x 1 y)", "(+ 1 x 1 x)", "(+ (+ x 1) x)", "(+ (f 1) (select a 1))", "(- x)",
            "(- (+ x 1))", "(- x y)", "(- x x)", "(- 1 x)", "(- 0 x)", "(- (f 1))", "(- x (+ y 1))", "(+ (ite p 1 2) x)"};
        for (String text : wrongs) {
            wrong(b, text, 5, 1);
        }
        String[] told = {"(+ x 1)", "(+ 1 x)", "(+ 1 1 x 1)", "(+ 1 2)", "(- x 1)", "(- 1)", "(- 1 2)", "(- (+ x 1) 1)",
            "(+ (- 1) x)", "(- x (- 1))", "(+ (ite p 1 2) 1)", "(- two)", "(- x two)", "(- (- 7))", "(- 0)", "(+ 0 0)"};
        String[] made = {"(+ x 1)", "(+ x 1)", "(+ x 3)", "3", "(- x 1)", "(- 1)", "(- 1)", "x", "(- x 1)", "(+ x 1)",
            "(+ (ite p 1 2) 1)", "(- 2)", "(- x 2)", "7", "0", "0"};
        for (int i = 0; i < told.length; i++) {
            right(b, told[i], made[i]);
        }
    }

    /** 6 a number beyond -999999 .. 999999 (the sum of all; at the + or -). */
    private static void numbersBeyond(Bench b) {
        String[] wrongs = {"(+ 999999 1)", "(+ 1 999999)", "(+ 500000 500000)", "(- (- 999999) 1)", "(+ (- 999999) (- 1))",
            "(- 999999 (- 1))", "(+ (+ x 999999) 1)", "(- (- x 999999) 1)", "(+ x 999999 1)", "(+ x (- 999999) (- 1))",
            "(- (+ x 1) (- 999999))", "(+ 999999 999999 999999 999999 999999 999999 999999 999999)",
            "(+ (+ x 999999) 999999 999999 999999 999999 999999 999999 999999)"};
        for (String text : wrongs) {
            wrong(b, text, 6, 1);
        }
        String[] fits = {"(+ 999998 1)", "(- 999999)", "(- (- 999998) 1)", "(- 0 999999)", "(+ x 999999)", "(- x 999999)",
            "(+ (+ x 999998) 1)", "(- (- x 999998) 1)", "(+ 999999 999999 (- 999999))", "(+ x 999999 (- 999999))",
            "(+ (+ x 999999) 999999 (- 999999))", "(- (- x 999999) (- 999999))", "(- (+ x 999999) 999999)"};
        String[] made = {"999999", "(- 999999)", "(- 999999)", "(- 999999)", "(+ x 999999)", "(- x 999999)", "(+ x 999999)",
            "(- x 999999)", "999999", "x", "(+ x 999999)", "x", "x"};
        for (int i = 0; i < fits.length; i++) {
            right(b, fits[i], made[i]);
        }
        wrong(b, "(+ (+ 999999 1) (- 1))", 6, 4);
        wrong(b, "(up 10)", 6, 1);
        right(b, "(up 9)", "999999");
        wrong(b, "(up (+ x 10))", 6, 1);
        right(b, "(up (+ x 9))", "(+ x 999999)");
    }

    /** 8 pop without a push (at it). */
    private static void popWithoutPush(Bench b) {
        fault(b, "(pop)", 8, 1);
        fault(b, " ( \n pop)", 8, 5);
        TheoryCourt x = court();
        b.runs(x, "(push)", 1);
        b.runs(x, "(pop)", 0);
        x.literal(4);
        b.refuses(x, "(pop)", -108, 1);
    }

    /** Found as terms are made, parts first, from the left to the right. */
    private static void partsFirst(Bench b) {
        wrong(b, "(ite nix)", 1, 5);
        wrong(b, "(not (f p) (g 1))", 3, 6);
        wrong(b, "(and x (f 1 1))", 4, 8);
        wrong(b, "(+ x y (+ x y))", 5, 8);
        wrong(b, "(+ p (+ 999999 1))", 6, 6);
        wrong(b, "(x nix)", 1, 3);
        wrong(b, "(f p nix)", 1, 5);
        wrong(b, "(f (f p) (f 1 1))", 3, 4);
        wrong(b, "(and (+ x y) (f p))", 5, 6);
        wrong(b, "(and (f p) (+ x y))", 3, 6);
        wrong(b, "(let ((u (f p))) nix)", 3, 10);
        wrong(b, "(let ((u 1)) (ite (let ((v p)) (f v)) nix))", 3, 32);
        fault(b, "(assert (+ x y))", 5, 9);
        fault(b, "(define-fun d () Bool (+ x y))", 5, 23);
    }

    /** .. then 4, 3, 5, 6. */
    private static void orderWithinOne(Bench b) {
        wrong(b, "(ite x x)", 4, 1);
        wrong(b, "(select p)", 4, 1);
        wrong(b, "(not x x)", 4, 1);
        wrong(b, "(= x p a a)", 3, 1);
        wrong(b, "(f p p)", 4, 1);
        wrong(b, "(g p)", 4, 1);
        wrong(b, "(- p p p)", 4, 1);
        wrong(b, "(- x y 1)", 4, 1);
        wrong(b, "(+ p)", 4, 1);
        wrong(b, "(+ x y p)", 3, 1);
        wrong(b, "(- x p)", 3, 1);
        wrong(b, "(+ 999999 1 p)", 3, 1);
        wrong(b, "(+ x y 999999 1)", 5, 1);
        wrong(b, "(+ 999999 1 x x)", 5, 1);
        wrong(b, "(- 999999 x)", 5, 1);
    }

    /** declare, define: 2 of its NAME first, then sorts from the left (3, 4), then parameters (2), its term, 3. */
    private static void orderOfDeclarations(Bench b) {
        fault(b, "(declare-fun x (Bool) (Array Int Int))", 2, 13);
        fault(b, "(declare-fun x (Int Int Int Int) Int)", 2, 13);
        fault(b, "(declare-fun h (Int Bool Int Int) Int)", 3, 20);
        fault(b, "(declare-fun h (Int Int Int Int Bool) (Array Int Int))", 4, 28);
        fault(b, "(declare-fun h (Bool) (Array Int Int))", 3, 16);
        fault(b, "(define-fun x ((u Int) (u Int)) Int nix)", 2, 12);
        fault(b, "(define-fun x ((u Int) (v Int) (w Int) (t Int)) Int nix)", 2, 12);
        fault(b, "(define-fun h ((u Int) (u Int) (w Int) (t Int)) Int nix)", 4, 39);
        fault(b, "(define-fun h ((u Int) (u Int)) Int nix)", 2, 24);
        fault(b, "(define-fun h ((u Int)) Int (f p))", 3, 29);
        fault(b, "(define-fun h ((u Int)) Bool (+ u 999999 1))", 6, 30);
        fault(b, "(define-fun h ((u Int)) Bool u)", 3, 29);
    }

    /** Within a define-fun's term that is read anew: at the NAME in the command, the outermost one. */
    private static void placesInDefinitions(Bench b) {
        wrong(b, "(f (up 10))", 6, 4);
        wrong(b, "(+ 1 (up (+ x 10)))", 6, 6);
        wrong(b, "(up (up 10))", 6, 5);
        wrong(b, "(up (up 5))", 6, 1);
        TheoryCourt x = court();
        b.runs(x, "(define-fun upper ((n Int)) Int (f (+ (up n) 1)))", 10);
        b.fails(x, "(term (f (upper 9)))", -106, 10);
        b.fails(x, "(term (f (upper 10)))", -106, 10);
        b.runs(x, "(term (f (upper 8)))", 9);
        b.fails(x, "(define-fun most () Int (let ((u 9)) (upper u)))", -106, 38);
        b.runs(x, "(define-fun nine () Int 9)", 11);
        b.fails(x, "(term (up (+ nine 1)))", -106, 7);
        b.fails(x, "(term (+ nine nine 999999))", -106, 7);
    }

    private static void placesWithBlanks(Bench b) {
        fault(b, "\n( term\t(  +  x  y ) )", 5, 11);
        fault(b, "   (assert    x)", 3, 14);
        fault(b, "(declare-const    x   Int)", 2, 18);
    }
}
