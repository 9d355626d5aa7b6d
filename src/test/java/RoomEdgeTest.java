/** The document's FAULT 7, ROOM: of each kind the last that there is room for, and the first that there is none for. */
public final class RoomEdgeTest {
    private static final String[] NAMES = {
        "(declare-const c0 Int)", "(declare-const c1 Int)", "(declare-const c2 Int)", "(declare-const c3 Int)",
        "(declare-const c4 Int)", "(declare-const c5 Int)", "(declare-const c6 Int)", "(declare-const p Bool)",
        "(declare-const q Bool)", "(declare-const s Bool)", "(declare-const a (Array Int Int))",
        "(declare-const b (Array Int Int))", "(declare-const c (Array Int Int))", "(declare-const d (Array Int Int))",
        "(declare-const e (Array Int Int))", "(declare-fun f (Int) Int)", "(declare-fun r (Int) Bool)"};
    private static final String[] NONE_MORE = {};
    private static final int ROOM = -107;
    private static final String EIGHT = "(+ k k k k k k k k)";

    public static void main(String[] args) {
        Bench b = new Bench("RoomEdgeTest");
        symbols(b);
        symbolsBehindAllElse(b);
        symbolsAfterPop(b);
        assertions(b);
        assertionsBehindAllElse(b);
        levels(b);
        terms(b);
        termsAsSoonAsItIsSo(b);
        intUnits(b);
        boolUnits(b);
        arrays(b);
        places(b);
        intItes(b);
        equations(b);
        comparisons(b);
        asSoonAsItIsSo(b);
        roomAfterPop(b);
        termsOfDefinitions(b);
        parametersAreNoSymbols(b);
        unitsOfDefinitions(b);
        tokens(b);
        nestedTokens(b);
        tokensAheadOfReading(b);
        tokensOfDefinitions(b);
        b.finish();
    }

    /** What fills the room is taken; each of the others is then refused, and each of the last ones taken. */
    private static void room(Bench b, int what, int most, String[] fill, String[] over, String[] more) {
        for (String text : over) {
            TheoryCourt x = filled(b, what, most, fill);
            b.fails(x, "(  term " + text + ")", ROOM, 3);
            TheoryCourt y = filled(b, what, most, fill);
            String before = Bench.counts(y);
            b.fails(y, "(assert (= " + text + " " + text + "))", ROOM, 1);
            b.due("counts after " + text, Bench.counts(y), before);
            b.due("terms go on behind the last", Bench.run(y, "(term 777777)"), y.count(1) - 1);
        }
        for (String text : more) {
            TheoryCourt x = filled(b, what, most, fill);
            b.due("room for " + text, Bench.term(x, text) >= 0 ? 1 : 0, 1);
        }
    }

    private static TheoryCourt filled(Bench b, int what, int most, String[] fill) {
        TheoryCourt x = Bench.worn(NAMES);
        for (String text : fill) {
            b.due("room for " + text, Bench.term(x, text) >= 0 ? 1 : 0, 1);
        }
        if (what >= 0) {
            b.due("count(" + what + ")", x.count(what), most);
        }
        return x;
    }

    private static TheoryCourt manySymbols() {
        TheoryCourt x = new TheoryCourt();
        for (int i = 0; i < 8; i++) {
            Bench.run(x, "(declare-const c" + i + " Int)");
            Bench.run(x, "(declare-fun f" + i + " (Int) Int)");
            Bench.run(x, "(define-fun d" + i + " () Int 1)");
        }
        return x;
    }

    /** SYMBOLS .. 24 at most: the 25th, at the word behind the command's ( . */
    private static void symbols(Bench b) {
        b.due("symbols", manySymbols().count(0), 24);
        b.due("the last one is there", manySymbols().symbol(23, 1), '7');
        b.refuses(manySymbols(), "(declare-const n Int)", ROOM, 1);
        b.refuses(manySymbols(), "(declare-fun n (Int) Bool)", ROOM, 1);
        b.refuses(manySymbols(), " (\tdefine-fun n ((u Int)) Int u)", ROOM, 3);
        TheoryCourt x = new TheoryCourt();
        for (int i = 0; i < 24; i++) {
            b.runs(x, "(define-fun d" + i + " () Int 1)", i);
        }
        b.fails(x, "(define-fun d24 () Int 1)", ROOM, 1);
        b.due("symbols", x.count(0), 24);
    }

    /** .. (behind all else). */
    private static void symbolsBehindAllElse(Bench b) {
        b.refuses(manySymbols(), "(declare-const c0 Int)", -102, 15);
        b.refuses(manySymbols(), "(declare-fun n (Bool) Int)", -103, 16);
        b.refuses(manySymbols(), "(declare-fun n (Int) (Array Int Int))", -103, 21);
        b.refuses(manySymbols(), "(declare-fun n (Int Int Int Int) Int)", -104, 28);
        b.refuses(manySymbols(), "(define-fun n ((u Int) (u Int)) Int u)", -102, 24);
        b.refuses(manySymbols(), "(define-fun n () Int nix)", -101, 21);
        b.refuses(manySymbols(), "(define-fun n () Int (+ 999999 1))", -106, 22);
        b.refuses(manySymbols(), "(define-fun n () Int true)", -103, 21);
        b.refuses(manySymbols(), "(declare-const n Int", -3, 20);
    }

    private static void symbolsAfterPop(Bench b) {
        TheoryCourt x = new TheoryCourt();
        for (int i = 0; i < 23; i++) {
            Bench.run(x, "(declare-const c" + i + " Int)");
        }
        Bench.run(x, "(push)");
        b.runs(x, "(declare-const n Int)", 23);
        b.fails(x, "(declare-const m Int)", ROOM, 1);
        Bench.run(x, "(pop)");
        b.runs(x, "(declare-const m Int)", 23);
        b.fails(x, "(declare-const n Int)", ROOM, 1);
    }

    private static TheoryCourt manyAssertions() {
        TheoryCourt x = Bench.court("(declare-const p Bool)", "(declare-const n Int)");
        for (int i = 0; i < 14; i++) {
            Bench.run(x, i % 2 == 0 ? "(assert p)" : "(assert (or p true))");
        }
        return x;
    }

    /** The 15th assertion; what it would have made is not there. */
    private static void assertions(Bench b) {
        b.due("assertions", manyAssertions().count(2), 14);
        b.due("the last one", manyAssertions().asserted(13), 2);
        b.refuses(manyAssertions(), "(assert p)", ROOM, 1);
        b.refuses(manyAssertions(), "( assert (< n 3))", ROOM, 2);
        b.refuses(manyAssertions(), "(assert false)", ROOM, 1);
        TheoryCourt x = manyAssertions();
        Bench.run(x, "(push)");
        b.refuses(x, "(assert p)", ROOM, 1);
        TheoryCourt y = Bench.court("(assert true)", "(push)");
        for (int i = 1; i < 14; i++) {
            b.runs(y, "(assert true)", i);
        }
        b.fails(y, "(assert false)", ROOM, 1);
        b.due("check", y.check(), 1);
        Bench.run(y, "(pop)");
        b.runs(y, "(assert false)", 1);
    }

    private static void assertionsBehindAllElse(Bench b) {
        b.refuses(manyAssertions(), "(assert nix)", -101, 8);
        b.refuses(manyAssertions(), "(assert n)", -103, 8);
        b.refuses(manyAssertions(), "(assert (not p p))", -104, 9);
        b.refuses(manyAssertions(), "(assert (= (+ n n) 1))", -105, 12);
        b.refuses(manyAssertions(), "(assert (= (+ 999999 1) 1))", -106, 12);
    }

    /** The ninth level. */
    private static void levels(Bench b) {
        TheoryCourt x = new TheoryCourt();
        for (int i = 1; i <= 8; i++) {
            b.runs(x, "(push)", i);
        }
        b.refuses(x, "(push)", ROOM, 1);
        b.refuses(x, "  (  push )", ROOM, 5);
        b.due("levels", x.count(3), 8);
        b.runs(x, "(pop)", 7);
        b.runs(x, "(push)", 8);
        b.refuses(x, "(push)", ROOM, 1);
        for (int i = 7; i >= 0; i--) {
            b.runs(x, "(pop)", i);
        }
        b.refuses(x, "(pop)", -108, 1);
    }

    private static TheoryCourt manyTerms(int count) {
        TheoryCourt x = Bench.court("(declare-const p Bool)", "(declare-const n Int)");
        for (int i = 0; i < count; i++) {
            Bench.run(x, "(term " + i + ")");
        }
        return x;
    }

    private static void full(Bench b, int count, String text, int want, int place) {
        TheoryCourt x = manyTerms(count);
        String before = Bench.counts(x);
        b.fails(x, text, want, place);
        b.due("counts after " + text, Bench.counts(x), before);
    }

    /** TERMS .. 64 at most: the 65th. */
    private static void terms(Bench b) {
        b.runs(manyTerms(63), "(term 63)", 63);
        b.runs(manyTerms(63), "(term p)", 63);
        b.runs(manyTerms(63), "(assert true)", 0);
        b.runs(manyTerms(62), "(assert (not p))", 0);
        b.runs(manyTerms(64), "(term 63)", 63);
        b.runs(manyTerms(64), "(term (+ 60 3))", 63);
        b.runs(manyTerms(64), "(term (let ((u 1)) (- 9 u)))", 8);
        full(b, 64, "(term 64)", ROOM, 1);
        full(b, 64, "(term p)", ROOM, 1);
        full(b, 64, "(assert true)", ROOM, 1);
        full(b, 64, "(term (- 1))", ROOM, 1);
        full(b, 63, "(assert (not p))", ROOM, 1);
        full(b, 63, "(term (= 1 n))", ROOM, 1);
        full(b, 62, "( term (= 64 n))", ROOM, 2);
        b.runs(manyTerms(62), "(term (= 1 n))", 63);
        TheoryCourt x = manyTerms(64);
        b.runs(x, "(push)", 1);
        b.runs(x, "(declare-const m Int)", 2);
        b.fails(x, "(term m)", ROOM, 1);
    }

    /** As soon as it is so: a fault before it is told in its place, one behind it is not. */
    private static void termsAsSoonAsItIsSo(Bench b) {
        full(b, 64, "(term (+ nix 64))", -101, 9);
        full(b, 64, "(term (+ 64 nix))", ROOM, 1);
        full(b, 64, "(term (nix 64))", -101, 7);
        full(b, 64, "(term (+ 63 1))", ROOM, 1);
        full(b, 64, "(term (+ 63 p))", ROOM, 1);
        full(b, 63, "(term (+ 63 p))", ROOM, 1);
        full(b, 62, "(term (+ 63 p))", -103, 7);
        full(b, 64, "(term (not 1 2))", -104, 7);
        full(b, 64, "(assert 1)", -103, 8);
        full(b, 64, "(assert (= 1 2))", ROOM, 1);
        full(b, 64, "(assert 64", -3, 10);
    }

    /** More than 6 INT UNITS: Int terms of the kinds 1, 2, 3. */
    private static void intUnits(Bench b) {
        String[] more = {"c5", "(+ c0 1)", "(ite p c0 c1)", "12", "(< c0 c5)", "(store a c1 c2)", "p", "(r c0)"};
        room(b, 4, 6, new String[] {"c0", "c1", "c2", "c3", "c4", "c5"}, new String[] {"c6", "(f c0)", "(select a c0)"}, more);
        room(b, 4, 6, new String[] {"(f (f (f (f (f (f 0))))))"}, new String[] {"c0", "(f 1)", "(select a 0)"}, new String[] {"(f 0)"});
        room(b, 4, 6, new String[] {"(= c0 (f 1) (select a 0))", "(select b (select a 0))", "(f c0)", "c1"},
            new String[] {"c2", "(f c1)", "(select b 0)"}, new String[] {"(select a 0)"});
    }

    /** 4 BOOL UNITS: Bool terms of the kinds 1, 2, and EQUATIONS are no terms for this. */
    private static void boolUnits(Bench b) {
        String[] more = {"(not p)", "true", "(= a a)", "(distinct a b)", "(< c0 c1)", "(= p q)", "(and p q)", "(ite p q p)", "a"};
        room(b, 5, 4, new String[] {"p", "q", "(r 1)", "(r 2)"}, new String[] {"s", "(r 3)"}, more);
        room(b, 5, 4, new String[] {"(= a b)", "(and p q s)", "(r c0)"}, new String[] {"(r c1)"}, new String[] {"(= b a)"});
    }

    /** 4 ARRAYS (array terms). */
    private static void arrays(Bench b) {
        room(b, 6, 4, new String[] {"a", "b", "c", "d"}, new String[] {"e", "(store a 1 1)", "(ite p a b)"},
            new String[] {"(select a 1)", "(= a b)", "d"});
        room(b, 6, 4, new String[] {"(ite p a (store a 1 1))", "(store a 1 2)"},
            new String[] {"b", "(store a 1 3)", "(store a 2 1)", "(ite q a a)"}, new String[] {"(select a 1)"});
    }

    /** 3 PLACES (different Int terms that are second parts of SELECT, STORE). */
    private static void places(Bench b) {
        String[] fill = {"(select a 1)", "(select b 1)", "(store a 2 1)", "(select a c0)"};
        room(b, 7, 3, fill, new String[] {"(select a 3)", "(store a 3 3)", "(select b c1)", "(select a (+ c0 1))", "(select a (f 1))"},
            new String[] {"(select b 2)", "(store b c0 1)", "(f 3)"});
        room(b, 7, 3, new String[] {"(store (store (store a 1 1) 2 2) 3 3)"}, new String[] {"(select a 4)"},
            new String[] {"(select a 1)", "(select a 3)", "4"});
    }

    /** 3 ITES of Int; others do not count. */
    private static void intItes(Bench b) {
        room(b, -1, 0, new String[] {"(ite p 1 2)", "(ite p 1 (ite p 1 3))"},
            new String[] {"(ite p 2 1)", "(ite q 1 2)", "(ite p 1 (ite p 1 2))"},
            new String[] {"(ite p 1 3)", "(ite p q p)", "(ite p a a)", "(+ (ite p 1 2) 7)"});
        room(b, -1, 0, new String[] {"(ite p q p)", "(ite p a b)", "(ite q p p)", "(ite p p p)", "(ite p 1 2)", "(ite p 1 3)", "(ite p 1 4)"},
            new String[] {"(ite p 1 5)"}, NONE_MORE);
    }

    /** 3 EQUATIONS: two parts side by side in EQUAL, any two in DISTINCT, one with itself, too, in each term anew. */
    private static void equations(Bench b) {
        String[] more = {"(= p q)", "(= 1 2)", "(distinct p q)", "(< 1 2 3)", "(ite p a b)"};
        room(b, 8, 3, new String[] {"(= a b)", "(= b a)", "(distinct a b)"}, new String[] {"(= a a)", "(distinct b a)", "(= a b a)"}, more);
        room(b, 8, 3, new String[] {"(= a a)", "(= a b)", "(= a a)", "(distinct a a)"}, new String[] {"(= b b)"}, new String[] {"(= a b)"});
        room(b, 8, 3, new String[] {"(= a a a a)"}, new String[] {"(= a a)", "(distinct a b)"}, new String[] {"(= a a a a)"});
        room(b, 8, 3, new String[] {"(distinct a b c)"}, new String[] {"(= a b)"}, NONE_MORE);
        room(b, 8, 2, new String[] {"(= a b c)"}, new String[] {"(= a a a)", "(distinct a b c)"}, new String[] {"(= a a)", "(distinct a c)"});
        room(b, 8, 0, new String[] {"a"}, new String[] {"(= a a a a a)", "(distinct a a a a)"}, new String[] {"(= a a a a)", "(distinct a a a)"});
    }

    /** 12 COMPARISONS (likewise two Ints, of the kinds 14 to 19). */
    private static void comparisons(Bench b) {
        for (String op : new String[] {"=", "<", "<=", ">", ">="}) {
            String[] fill = {"(" + op + " 1 2 3 4 5 6 7 8)", "(" + op + " 1 1 1 1 1 1)"};
            room(b, 9, 12, fill, new String[] {"(= 1 1)", "(distinct 1 2)", "(< 1 2)", "(<= 1 2)", "(> 1 2)", "(>= 1 2)"},
                new String[] {"(" + op + " 1 1 1 1 1 1)", "(= a a)", "(distinct p q s)", "(not p)"});
            room(b, 9, 7, new String[] {fill[0]}, new String[] {"(" + op + " 1 1 1 1 1 1 1)", "(distinct 1 2 3 4)"},
                new String[] {"(" + op + " 1 1 1 1 1 1)"});
        }
        room(b, 9, 10, new String[] {"(distinct 1 2 3 4 5)"}, new String[] {"(distinct 1 2 3)", "(< 1 2 3 4)"}, new String[] {"(< 1 2 3)"});
        room(b, 9, 0, new String[] {"1"}, new String[] {"(distinct 1 2 3 4 5 6)", "(distinct 1 1 1 1 1 1 1 1)"},
            new String[] {"(distinct 1 1 1 1 1)"});
    }

    /** As soon as it is so, for these, too: the seventh unit counts before what stands behind it is looked at. */
    private static void asSoonAsItIsSo(Bench b) {
        String[] fill = {"c0", "c1", "c2", "c3", "c4", "c5"};
        b.fails(filled(b, 4, 6, fill), "(term (+ c6 nix))", ROOM, 1);
        b.fails(filled(b, 4, 6, fill), "(term (+ nix c6))", -101, 9);
        b.fails(filled(b, 4, 6, fill), "(term (+ c6 p))", ROOM, 1);
        b.fails(filled(b, 4, 6, fill), "(assert c6)", ROOM, 1);
        b.fails(filled(b, 4, 6, fill), "(term (f p))", -103, 7);
        b.fails(filled(b, 4, 6, fill), "(term (f c0 c1))", -104, 7);
        b.fails(filled(b, 4, 6, fill), "(term c6", -3, 8);
        b.fails(filled(b, 9, 12, new String[] {"(< 1 2 3 4 5 6 7 8)", "(< 1 1 1 1 1 1)"}), "(assert (and (= 1 1) nix))", ROOM, 1);
        b.fails(filled(b, 8, 3, new String[] {"(distinct a b c)"}), "(term (and (= a a) nix))", ROOM, 1);
        b.fails(filled(b, 8, 3, new String[] {"(distinct a b c)"}), "(term (and nix (= a a)))", -101, 11);
    }

    /** What a level took is free when it goes. */
    private static void roomAfterPop(Bench b) {
        TheoryCourt x = Bench.court(NAMES);
        Bench.run(x, "(term (+ c0 1))");
        Bench.run(x, "(push)");
        b.runs(x, "(assert (distinct c1 c2 c3 c4 c5))", 0);
        b.runs(x, "(assert (distinct a b c))", 1);
        b.runs(x, "(assert (and p q s (r 1)))", 2);
        b.runs(x, "(assert (< (ite p 1 2) (ite p 1 3) (ite p 1 4)))", 3);
        b.due("counts", Bench.counts(x), "17 25 4 1 6 4 3 0 3 12 ");
        for (String text : new String[] {"c6", "(r 2)", "(= a a)", "(= 1 1)", "(ite p 1 5)"}) {
            b.fails(x, "(term " + text + ")", ROOM, 1);
        }
        Bench.run(x, "(pop)");
        b.due("counts after pop", Bench.counts(x), "17 3 0 0 1 0 0 0 0 0 ");
        for (String text : new String[] {"c6", "(r 2)", "(= a a)", "(= 1 1)", "(ite p 1 5)"}) {
            b.due("room for " + text, Bench.term(x, text) >= 0 ? 1 : 0, 1);
        }
    }

    /** A define-fun's parameters are terms from the beginning; the 65th at once counts, and none is kept. */
    private static void termsOfDefinitions(Bench b) {
        b.runs(manyTerms(64), "(define-fun d () Int 63)", 2);
        full(b, 64, "(define-fun d ((u Int)) Int 63)", ROOM, 1);
        full(b, 64, "(define-fun d () Int 64)", ROOM, 1);
        b.runs(manyTerms(63), "(define-fun d ((u Int)) Int u)", 2);
        full(b, 63, "(define-fun d ((u Int) (v Bool)) Int u)", ROOM, 1);
        b.runs(manyTerms(61), "(define-fun d ((u Int) (v Bool) (w (Array Int Int))) Int 1)", 2);
        full(b, 62, "(define-fun d ((u Int) (v Bool) (w (Array Int Int))) Int nix)", ROOM, 1);
        full(b, 62, "(define-fun d ((u Int) (v Bool)) Int nix)", -101, 37);
        full(b, 62, "(define-fun d ((u Int) (u Bool) (w Int)) Int nix)", -102, 24);
        b.runs(manyTerms(62), "(define-fun d ((u Int)) Int (+ u 1))", 2);
        full(b, 63, "(define-fun d ((u Int)) Int (+ u 1))", ROOM, 1);
        full(b, 62, "(define-fun d ((u Int)) Int (+ u 62))", ROOM, 1);
        TheoryCourt x = manyTerms(62);
        b.runs(x, "(define-fun d ((u Int)) Int (+ u 1))", 2);
        b.due("none is kept", x.count(1), 62);
        b.runs(x, "(term (d 61))", 62);
        b.runs(x, "(term (d 62))", 63);
        b.fails(x, "(term (d 63))", ROOM, 1);
        TheoryCourt y = Bench.court("(declare-const u Int)", "(term u)", "(define-fun d ((u Int)) Int (+ u 1))");
        b.due("a parameter is no symbol's term, and not kept", y.count(1), 1);
    }

    /** Its parameters are NAMES of these sorts alone, and no symbol's, however many symbols there are. */
    private static void parametersAreNoSymbols(Bench b) {
        for (int last = 20; last < 23; last++) {
            TheoryCourt x = new TheoryCourt();
            for (int i = 0; i <= last; i++) {
                Bench.run(x, "(declare-const b" + i + " Bool)");
            }
            b.due("term", Bench.term(x, "b" + last), 0);
            b.due("term", Bench.term(x, "b" + (last - 1)), 1);
            b.runs(x, "(define-fun d ((u Int) (v Int) (w Int)) Int (ite (< u v w) w (ite (= u v) u v)))", last + 1);
        }
    }

    /** Of ROOM just these count there; in the terms that come of it all do. */
    private static void unitsOfDefinitions(Bench b) {
        String[] bodies = {"(distinct c0 c1 c2 c3 c4)", "(< (f 1) (f 2) (f 3) (f 4) (f 5) (f 6) (f 7))", "(and p q s (r 1) (r 2))",
            "(= a b c d e)", "(distinct 1 2 3 4 5 6)", "(= (ite p 1 2) (ite p 1 3) (ite p 1 4) (ite p 1 5))",
            "(= (select a 1) (select a 2) (select a 3) (select a 4))"};
        for (int i = 0; i < bodies.length; i++) {
            TheoryCourt x = Bench.court(NAMES);
            b.runs(x, "(define-fun much () Bool " + bodies[i] + ")", 17);
            b.due("no terms of " + bodies[i], x.count(1), 0);
            b.due("when it is read: " + bodies[i], Bench.run(x, "(term much)"), i == 0 ? 5 : ROOM);
            b.due("its place", x.place(), i == 0 ? -1 : 1);
        }
        for (String text : new String[] {"seventh", "(let ((u seventh)) 1)", "(+ seventh nix)"}) {
            TheoryCourt x = filled(b, 4, 6, new String[] {"c0", "c1", "c2", "c3", "c4", "c5"});
            b.runs(x, "(define-fun seventh () Int c6)", 17);
            b.fails(x, "(term " + text + ")", ROOM, 1);
            b.due("counts", Bench.counts(x), "18 6 0 0 6 0 0 0 0 0 ");
        }
    }

    /** A define-fun without parameters whose term is 0, told by so many tokens (6, 10, 14 .. ). */
    private static String lengthy(String name, int tokens) {
        StringBuilder text = new StringBuilder("(define-fun " + name + " () Int (let (");
        for (int i = 0; i < (tokens - 6) / 4; i++) {
            text.append("(u").append(i).append(" 0)");
        }
        return text.append(") 0))").toString();
    }

    private static TheoryCourt lengthyCourt() {
        return Bench.court(lengthy("k", 250), "(define-fun one () Int 0)", "(define-fun up ((n Int)) Int (+ n 999999))",
            "(define-fun in () Int k)", lengthy("rest", 242));
    }

    /** More than 4000 tokens read in the terms of define-funs in one command. */
    private static void tokens(Bench b) {
        String all = "(+ " + EIGHT + " " + EIGHT;
        b.runs(lengthyCourt(), "(term " + all + "))", 0);
        b.runs(lengthyCourt(), "(assert (= 0 " + all + ")))", 0);
        b.refuses(lengthyCourt(), "(term " + all + " one))", ROOM, 1);
        b.refuses(lengthyCourt(), "( assert (= " + all + " one) 0))", ROOM, 2);
        b.refuses(lengthyCourt(), "(term " + all + " k))", ROOM, 1);
        TheoryCourt x = lengthyCourt();
        b.runs(x, "(term " + all + "))", 0);
        b.runs(x, "(term " + all + "))", 0);
        b.runs(x, "(term one)", 0);
    }

    /** Each reading's all, nested ones, too: in has 1 and 250. */
    private static void nestedTokens(Bench b) {
        String all = "(+ (+ in in in in in in in in) (+ k k k k k k k) rest";
        b.runs(lengthyCourt(), "(term " + all + "))", 0);
        b.refuses(lengthyCourt(), "(term " + all + " one))", ROOM, 1);
        String most = "(+ (+ in in in in in in in in) (+ in in in in in in in)";
        b.runs(lengthyCourt(), "(term " + most + "))", 0);
        b.refuses(lengthyCourt(), "(term " + most + " in))", ROOM, 1);
        TheoryCourt x = new TheoryCourt();
        b.runs(x, lengthy("k", 390), 0);
        String tens = "(let ((u k) (v k)) (+ k k k k k k k k))";
        b.runs(x, "(term " + tens + ")", 0);
        b.runs(x, "(term (let ((w " + tens + ")) 0))", 0);
        b.refuses(x, "(term (let ((w " + tens + ")) k))", ROOM, 1);
    }

    /** .. ahead of it: before a fault in it, behind those of what it takes. */
    private static void tokensAheadOfReading(Bench b) {
        String all = "(term (+ " + EIGHT + " " + EIGHT + " ";
        b.refuses(lengthyCourt(), all + "(up 1)))", ROOM, 1);
        b.refuses(lengthyCourt(), all + "(up true)))", -103, all.length() + 1);
        b.refuses(lengthyCourt(), all + "(up 1 1)))", -104, all.length() + 1);
        b.refuses(lengthyCourt(), all + "(up nix)))", -101, all.length() + 4);
        b.refuses(lengthyCourt(), "(term (+ (up 1) " + EIGHT + " " + EIGHT + "))", -106, 10);
        b.refuses(lengthyCourt(), "(term (up (+ " + EIGHT + " " + EIGHT + ")))", ROOM, 1);
    }

    /** The tokens count for a define-fun as well; its own term, as the command has it, is read as none of these. */
    private static void tokensOfDefinitions(Bench b) {
        String all = "(+ " + EIGHT + " " + EIGHT;
        b.runs(lengthyCourt(), "(define-fun d () Int " + all + "))", 5);
        b.refuses(lengthyCourt(), "(define-fun d () Int " + all + " one))", ROOM, 1);
        b.refuses(lengthyCourt(), "(define-fun d ((n Int)) Int " + all + " k))", ROOM, 1);
        TheoryCourt x = lengthyCourt();
        b.runs(x, "(define-fun d () Int " + EIGHT + ")", 5);
        b.runs(x, "(define-fun e () Int (+ d k k k k k k k))", 6);
        b.runs(x, "(term (+ e one))", 0);
        b.fails(x, "(term (+ e d))", ROOM, 1);
        b.fails(x, "(define-fun h () Int (+ e d))", ROOM, 1);
    }
}
