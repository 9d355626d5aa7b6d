import java.util.ArrayList;
import java.util.Arrays;
import java.util.List;
import java.util.Random;

/** The document's part 3, PROOFS: of each sentence what a rule still allows, and what it does not. */
public final class ProofEdgeTest {
    private static final String[] NAMES = {
        "(declare-const x Int)", "(declare-const y Int)", "(declare-const z Int)", "(declare-const p Bool)",
        "(declare-const q Bool)", "(declare-const s Bool)", "(declare-const a (Array Int Int))",
        "(declare-const b (Array Int Int))", "(declare-fun f (Int) Int)", "(declare-fun g (Int Int) Int)",
        "(declare-fun h (Int) Int)", "(declare-fun r (Int Int) Bool)"};
    private static final int[] WILD = {-1, -2, 64, 1000, Integer.MIN_VALUE, Integer.MAX_VALUE};
    private static final int NONE = TheoryCourt.NONE;

    public static void main(String[] args) {
        Bench b = new Bench("ProofEdgeTest");
        literals(b);
        draftOfEight(b);
        orderOfLiterals(b);
        sixtySteps(b);
        whatTakesStepsAway(b);
        whatWent(b);
        whatDoesNot(b);
        noSuchRule(b);
        numbersThatAreNone(b);
        asserted(b);
        resolved(b);
        resolvedWithItself(b);
        connected(b);
        notConnected(b);
        ordered(b);
        orderedEdges(b);
        orderedCountsForNothing(b);
        alike(b);
        read(b);
        passed(b);
        chosen(b);
        linked(b);
        linkedLong(b);
        split(b);
        joinedAndParted(b);
        firstEmptyStep(b);
        b.finish();
    }

    /** A text with ~ before it is the opposite. */
    private static int literal(TheoryCourt x, String text) {
        boolean opposite = text.startsWith("~");
        int t = Bench.term(x, opposite ? text.substring(1) : text);
        if (t < 0) {
            throw new IllegalStateException(text);
        }
        return 2 * t + (opposite ? 1 : 0);
    }

    private static int add(TheoryCourt x, String text) {
        return x.literal(literal(x, text));
    }

    private static String opposite(String text) {
        return text.startsWith("~") ? text.substring(1) : "~" + text;
    }

    private static int number(TheoryCourt x, String text) {
        return text.isEmpty() ? Integer.MIN_VALUE : Bench.term(x, text);
    }

    /** Whether a rule allows a draft; a refused one stays, an allowed one is the first step. */
    private static void rule(Bench b, boolean want, int rule, String one, String other, List<String> draft) {
        TheoryCourt x = Bench.worn(NAMES);
        int[] terms = {number(x, one), number(x, other)};
        for (String text : draft) {
            add(x, text);
        }
        String what = "step(" + rule + ") of " + one + " and " + other + " with " + draft;
        String before = clause(x, -1);
        b.due(what, x.step(rule, terms[0], terms[1]), want ? 0 : NONE);
        b.due("the draft after " + what, clause(x, -1), want ? "0:" : before);
        b.due("the step after " + what, clause(x, 0), want ? before : "-1:");
    }

    private static String clause(TheoryCourt x, int k) {
        int length = x.clause(k, -1);
        StringBuilder text = new StringBuilder().append(length).append(':');
        for (int i = 0; i < length; i++) {
            text.append(' ').append(x.clause(k, i));
        }
        return text.toString();
    }

    private static void no(Bench b, int rule, String one, String other, String... draft) {
        rule(b, false, rule, one, other, Arrays.asList(draft));
    }

    private static void yes(Bench b, int rule, String one, String other, String... draft) {
        rule(b, true, rule, one, other, Arrays.asList(draft));
    }

    /** All of the draft is needed, as it is, and more does no harm. */
    private static void exact(Bench b, int rule, String one, String other, String... draft) {
        yes(b, rule, one, other, draft);
        List<String> more = new ArrayList<>(Arrays.asList(draft));
        more.add("s");
        more.add("~(and s s)");
        rule(b, true, rule, one, other, more);
        for (int i = 0; i < draft.length; i++) {
            List<String> less = new ArrayList<>(Arrays.asList(draft));
            less.remove(i);
            rule(b, false, rule, one, other, less);
            less.add(opposite(draft[i]));
            rule(b, false, rule, one, other, less);
        }
    }

    /** A LITERAL is 2 times a Bool term's number, and 1 more for its OPPOSITE. NONE: there is no such literal. */
    private static void literals(Bench b) {
        TheoryCourt x = Bench.court(NAMES);
        Bench.run(x, "(term (= (select a x) 3))");
        Bench.run(x, "(term (= a b))");
        Bench.run(x, "(term p)");
        int terms = x.count(1);
        int many = 0;
        for (int l = -3; l < 2 * terms + 4; l++) {
            boolean there = l >= 0 && l < 2 * terms && x.term(l / 2, 1) == 1;
            many += there ? 1 : 0;
            b.due("literal(" + l + ")", x.literal(l), there ? many : NONE);
        }
        b.due("how many", x.clause(-1, -1), 6);
        for (int l : WILD) {
            b.due("literal(" + l + ")", x.literal(l), NONE);
        }
        b.due("how many still", x.clause(-1, -1), 6);
        b.due("clear", x.clear(), 6);
        b.due("literal of nothing", new TheoryCourt().literal(0), NONE);
        b.due("literal of nothing", new TheoryCourt().literal(1), NONE);
        TheoryCourt y = Bench.court("(term (not true))", "(push)", "(term (not (not true)))", "(pop)");
        b.due("literal of what stays", y.literal(3), 1);
        b.due("literal of what went", y.literal(4), NONE);
        b.due("literal of what went", y.literal(5), NONE);
    }

    private static final String[] EIGHT = {"p", "~q", "s", "true", "~false", "(not p)", "(and p)", "~(or p)"};

    private static TheoryCourt eight(Bench b) {
        TheoryCourt x = Bench.court(NAMES);
        for (int i = 0; i < 8; i++) {
            b.due("literal " + i, add(x, EIGHT[i]), i + 1);
        }
        return x;
    }

    /** A set of literals, 8 at most. NONE: there are 8, and it is none of them. */
    private static void draftOfEight(Bench b) {
        TheoryCourt x = eight(b);
        String before = clause(x, -1);
        for (String text : EIGHT) {
            b.due("again " + text, add(x, text), 8);
            b.due("opposite of " + text, add(x, opposite(text)), NONE);
        }
        b.due("a ninth", add(x, "(xor p q)"), NONE);
        b.due("the eight stay", clause(x, -1), before);
        b.due("no literal 8", x.clause(-1, 8), NONE);
        b.due("an eighth", x.clause(-1, 7) >= 0 ? 1 : 0, 1);
        b.due("a step of eight", x.step(2, Bench.term(x, "true"), 0), 0);
        b.due("has them all", clause(x, 0), before);
        b.due("no literal 8 of it", x.clause(0, 8), NONE);
        b.due("the draft is empty", x.clear(), 0);
        b.due("there is room again", add(x, "(xor p q)"), 1);
        TheoryCourt y = eight(b);
        b.due("clear tells how many it had", y.clear(), 8);
        b.due("and it is empty", y.clear(), 0);
    }

    /** Told in the order of these numbers. */
    private static void orderOfLiterals(Bench b) {
        int[] numbers = {9, 2, 15, 3, 0, 8, 11, 14};
        TheoryCourt x = new TheoryCourt();
        for (String text : new String[] {"true", "false", "(not true)", "(not false)", "(and true)", "(or true)", "(and false)", "(or false)"}) {
            Bench.term(x, text);
        }
        for (int i = 0; i < numbers.length; i++) {
            b.due("literal " + numbers[i], x.literal(numbers[i]), i + 1);
        }
        b.due("in order", clause(x, -1), "8: 0 2 3 8 9 11 14 15");
        b.due("k = -1 and i = -1", x.clause(-1, -1), 8);
        b.due("i = -2", x.clause(-1, -2), NONE);
        b.due("k = -2", x.clause(-2, 0), NONE);
        b.due("k = 0 before there is one", x.clause(0, 0), NONE);
    }

    /** STEPS .. numbered from 0, 60 at most (THE DRAFT stays). */
    private static void sixtySteps(Bench b) {
        TheoryCourt x = Bench.court(NAMES);
        int l = literal(x, "true");
        int p = literal(x, "p");
        for (int i = 0; i < 60; i++) {
            b.due("no step " + i, x.clause(i, -1), NONE);
            x.literal(l);
            b.due("step " + i, x.step(2, l / 2, i), i);
        }
        x.literal(l);
        x.literal(p);
        b.due("the 61st", x.step(2, l / 2, 0), NONE);
        b.due("resolving", x.step(1, 0, 1), NONE);
        b.due("the draft stays", x.clause(-1, -1), 2);
        b.due("step 59", x.clause(59, 0), l);
        b.due("step 60", x.clause(60, -1), NONE);
        b.due("pop", Bench.run(x, "(pop)"), -108);
        b.due("step 59 stays", x.clause(59, 0), l);
    }

    private static TheoryCourt proving() {
        TheoryCourt x = Bench.court(NAMES);
        add(x, "true");
        x.step(2, Bench.term(x, "true"), 0);
        add(x, "p");
        return x;
    }

    /** A pop that is no fault takes all STEPS, and THE DRAFT's literals, away, also those that came before its push. */
    private static void whatTakesStepsAway(Bench b) {
        TheoryCourt x = proving();
        Bench.run(x, "(push)");
        Bench.run(x, "(pop)");
        b.due("the draft", clause(x, -1), "0:");
        b.due("the step", x.clause(0, -1), NONE);
        add(x, "~false");
        b.due("steps are numbered from 0 again", x.step(2, Bench.term(x, "false"), 0), 0);
    }

    /** What went is no step, and no literal of one, though others have its number now. */
    private static void whatWent(Bench b) {
        String[] names = {"(declare-const p Bool)", "(term true)", "(term p)", "(push)"};
        TheoryCourt x = Bench.court(names);
        step(x, "p");
        step(x, "~p");
        Bench.run(x, "(pop)");
        step(x, "p");
        add(x, "true");
        b.due("a step that went", x.step(1, 0, 1), NONE);
        b.due("a step that went", x.step(1, 1, 0), NONE);
        TheoryCourt y = Bench.court(names);
        step(y, "p");
        Bench.run(y, "(pop)");
        step(y);
        step(y, "~p");
        add(y, "true");
        b.due("a literal that went", y.step(1, 0, 1), NONE);
        b.due("a literal that went", y.step(1, 1, 0), NONE);
        b.due("how many", y.clause(0, -1), 1);
        b.due("no second one", y.clause(0, 1), NONE);
    }

    /** So do assert, term, push, declare, define not; nor does a command that is refused, or any other call. */
    private static void whatDoesNot(Bench b) {
        String[] commands = {"(assert p)", "(term (not p))", "(push)", "(declare-const n Int)", "(declare-fun n (Int) Int)",
            "(define-fun n () Int 1)", "(pop)", "(assert nix)", "(assert 1)", "(term (", "(define-fun n () Int true)", ""};
        for (String command : commands) {
            TheoryCourt x = proving();
            String draft = clause(x, -1);
            String step = clause(x, 0);
            Bench.run(x, command);
            x.check();
            x.sure();
            x.write(0);
            x.value(0);
            b.due("the draft after " + command, clause(x, -1), draft);
            b.due("the step after " + command, clause(x, 0), step);
        }
    }

    /** A rule 0 .. 9. NONE: there is no such rule. */
    private static void noSuchRule(Bench b) {
        for (int rule : new int[] {-1, 10, 11, Integer.MIN_VALUE, Integer.MAX_VALUE}) {
            TheoryCourt x = Bench.court(NAMES);
            Bench.run(x, "(assert p)");
            add(x, "p");
            add(x, "true");
            b.due("step(" + rule + ")", x.step(rule, 0, 0), NONE);
            b.due("the draft stays", x.clause(-1, -1), 2);
        }
    }

    /** a and b are none that it tells: no term, no assertion, no step has that number. */
    private static void numbersThatAreNone(Bench b) {
        TheoryCourt x = Bench.court(NAMES);
        String[] drafts = {"(= x x)", "(< x x)", "true", "~(= x x)"};
        for (String text : drafts) {
            add(x, text);
        }
        int behind = x.count(1);
        int[] wild = {-1, behind, 64, Integer.MIN_VALUE, Integer.MAX_VALUE};
        for (int none : wild) {
            for (int rule : new int[] {0, 1, 2, 4, 5, 6, 7, 8, 9}) {
                b.due("step(" + rule + ", " + none + ", 0)", x.step(rule, none, 0), NONE);
            }
            for (int rule : new int[] {1, 4, 6, 8, 9}) {
                b.due("step(" + rule + ", 0, " + none + ")", x.step(rule, 0, none), NONE);
            }
        }
        b.due("the draft stays", x.clause(-1, -1), 4);
    }

    /** 0 ASSERTED: it has the literal of assertion a's term. */
    private static void asserted(Bench b) {
        TheoryCourt x = Bench.court(NAMES);
        Bench.run(x, "(assert p)");
        Bench.run(x, "(assert (not q))");
        int p = literal(x, "p");
        int notQ = literal(x, "(not q)");
        b.due("an empty draft", x.step(0, 0, 0), NONE);
        x.literal(p + 1);
        b.due("the opposite", x.step(0, 0, 0), NONE);
        x.literal(notQ);
        b.due("another assertion's", x.step(0, 0, 0), NONE);
        b.due("its own", x.step(0, 1, Integer.MIN_VALUE), 0);
        x.literal(p);
        b.due("a behind the last", x.step(0, 2, 0), NONE);
        b.due("a = -1", x.step(0, -1, 0), NONE);
        b.due("any b", x.step(0, 0, Integer.MAX_VALUE), 1);
        x.literal(p);
        Bench.run(x, "(push)");
        Bench.run(x, "(assert (or p q))");
        b.due("a counts assertions, not terms", x.step(0, 2, 0), NONE);
        b.due("assertion 0", x.step(0, 0, 0), 2);
    }

    /** Steps of any literals at will: with true among them they are CONNECTED. */
    private static int step(TheoryCourt x, String... texts) {
        x.clear();
        add(x, "true");
        for (String text : texts) {
            add(x, text);
        }
        return x.step(2, Bench.term(x, "true"), 0);
    }

    private static void resolve(Bench b, boolean want, String one, String other, String draft) {
        TheoryCourt x = Bench.court(NAMES);
        int first = step(x, one.split(" "));
        int second = step(x, other.split(" "));
        add(x, "true");
        for (String text : draft.split(" ")) {
            if (!text.isEmpty()) {
                add(x, text);
            }
        }
        b.due(one + " with " + other + " gives " + draft, x.step(1, first, second), want ? 2 : NONE);
        TheoryCourt y = Bench.court(NAMES);
        second = step(y, other.split(" "));
        first = step(y, one.split(" "));
        add(y, "true");
        for (String text : draft.split(" ")) {
            if (!text.isEmpty()) {
                add(y, text);
            }
        }
        b.due(other + " with " + one + " gives " + draft, y.step(1, second, first), want ? 2 : NONE);
    }

    /** 1 RESOLVED: for some literal of a whose opposite b has, it has all others of a, and all others of b. */
    private static void resolved(Bench b) {
        resolve(b, true, "p", "~p", "");
        resolve(b, true, "p q", "~p", "q");
        resolve(b, false, "p q", "~p", "");
        resolve(b, false, "p q", "~p", "p");
        resolve(b, false, "p q", "~p", "~q");
        resolve(b, true, "p q", "~p", "q s");
        resolve(b, true, "p q", "~p q", "q");
        resolve(b, true, "p q", "~p s", "q s");
        resolve(b, false, "p q", "~p s", "q");
        resolve(b, false, "p q", "~p s", "s");
        resolve(b, true, "p q", "~p ~q", "q ~q");
        resolve(b, true, "p q", "~p ~q", "p ~p");
        resolve(b, false, "p q", "~p ~q", "p q");
        resolve(b, false, "p q", "~p ~q", "");
        resolve(b, false, "p q", "p q", "p q");
        resolve(b, false, "p", "~q", "p ~q");
        TheoryCourt x = Bench.court(NAMES);
        int one = step(x, "p");
        int other = step(x, "~p");
        b.due("all others: true, too", x.step(1, one, other), NONE);
        add(x, "true");
        b.due("no step 2", x.step(1, one, 2), NONE);
        b.due("no step 2", x.step(1, 2, other), NONE);
        b.due("no step -1", x.step(1, -1, other), NONE);
        b.due("it is step 2", x.step(1, one, other), 2);
    }

    private static void resolvedWithItself(Bench b) {
        TheoryCourt x = Bench.court(NAMES);
        int both = step(x, "p", "~p");
        add(x, "true");
        add(x, "p");
        b.due("all others of both", x.step(1, both, both), NONE);
        add(x, "~p");
        b.due("a step with itself", x.step(1, both, both), 1);
        int one = step(x, "p", "q");
        add(x, "true");
        add(x, "p");
        add(x, "q");
        b.due("that has no opposites", x.step(1, one, one), NONE);
    }

    private static final String[] CONNECTED = {"true", "false", "(not p)", "(and p)", "(or p)", "(and p q)", "(or p q)", "(xor p q)", "(=> p q)",
        "(= p q)", "(distinct p q)", "(and p q s)", "(xor p q s)", "(=> p q s)", "(= p q s)", "(distinct p q s)", "(ite p q s)", "(xor p p)",
        "(= p p)", "(distinct p p)", "(ite p q q)", "(=> p q p)", "(and p p q)", "(xor p q p)", "(ite p p q)"};

    /** What a term of this kind and these parts is if they are so; an own telling of what MEANING says. */
    private static boolean meaning(int kind, int[] parts, boolean[] is) {
        int yes = 0;
        boolean implied = false;
        for (int i = 0; i < parts.length; i++) {
            yes += is[parts[i]] ? 1 : 0;
            implied |= is[parts[i]] == (i + 1 == parts.length);
        }
        switch (kind) {
            case 4: return is[parts[0]] ? is[parts[1]] : is[parts[2]];
            case 7: return true;
            case 9: return yes == 0;
            case 10: return yes == parts.length;
            case 11: return yes > 0;
            case 12: return yes % 2 == 1;
            case 13: return implied;
            case 14: return yes == 0 || yes == parts.length;
            case 15: return parts.length == 2 && yes == 1;
            default: return false;
        }
    }

    /** Whether one of a's literals, or of its parts', is true whatever p, q and s are; a is term 3. */
    private static boolean isConnected(int kind, int[] parts, List<Integer> draft) {
        for (int row = 0; row < 8; row++) {
            boolean[] is = {(row & 1) == 1, (row & 2) == 2, (row & 4) == 4, false};
            is[3] = meaning(kind, parts, is);
            boolean one = false;
            for (int l : draft) {
                boolean told = l / 2 == 3;
                for (int part : parts) {
                    told |= part == l / 2;
                }
                one |= told && is[l / 2] == (l % 2 == 0);
            }
            if (!one) {
                return false;
            }
        }
        return true;
    }

    /** 2 CONNECTED: every draft of literals of a and of p, q, s, for each kind. */
    private static void connected(Bench b) {
        for (String text : CONNECTED) {
            for (int draft = 0; draft < 256; draft++) {
                TheoryCourt x = Bench.worn(NAMES[3], NAMES[4], NAMES[5], "(term p)", "(term q)", "(term s)", "(term " + text + ")");
                int[] parts = new int[x.term(3, 3)];
                for (int i = 0; i < parts.length; i++) {
                    parts[i] = x.term(3, 4 + i);
                }
                List<Integer> literals = new ArrayList<>();
                for (int l = 0; l < 8; l++) {
                    if ((draft >> l & 1) == 1) {
                        literals.add(l);
                        x.literal(l);
                    }
                }
                boolean want = isConnected(x.term(3, 0), parts, literals);
                b.due("step(2) of " + text + " with " + literals, x.step(2, 3, -9), want ? 0 : NONE);
            }
        }
    }

    /** Each term by itself; other kinds are none that the rule tells. */
    private static void notConnected(Bench b) {
        no(b, 2, "(or p (not p))", "", "(or p (not p))");
        yes(b, 2, "(or p (not p))", "", "(or p (not p))", "~p");
        no(b, 2, "(or p true)", "", "(or p true)");
        no(b, 2, "(and false p)", "", "~(and false p)");
        no(b, 2, "(not (not p))", "", "(not (not p))", "~p");
        for (String a : new String[] {"p", "(r x y)", "(= x y)", "(distinct x y)", "(= a b)", "(distinct a b)", "(< x y)", "(<= x y)",
            "(> x y)", "(>= x y)"}) {
            no(b, 2, a, "", a, "~" + a);
        }
        for (String a : new String[] {"(ite p x y)", "(ite p a b)", "x", "(+ x 1)", "(f x)", "(select a x)", "(store a x x)", "5", "a"}) {
            no(b, 2, a, "", "p", "~p", "true");
        }
    }

    private static final String[] INTS = {"x", "y", "z", "(+ x 1)", "(- y 2)", "(+ z 2)", "0", "3"};
    private static final String[] OPS = {"=", "distinct", "<", "<=", ">", ">="};

    private static int told(int i, int[] numbers) {
        int[] values = {numbers[0], numbers[1], numbers[2], numbers[0] + 1, numbers[1] - 2, numbers[2] + 2, 0, 3};
        return values[i];
    }

    private static boolean isSo(int op, int one, int other) {
        switch (op) {
            case 0: return one == other;
            case 2: return one < other;
            case 3: return one <= other;
            case 4: return one > other;
            default: return one >= other;
        }
    }

    /** What a row of parts asks of numbers if it is (so), or is not; true where it counts for nothing. */
    private static boolean allows(int op, int[] parts, boolean so, int[] numbers) {
        if (op == 0 && !so || op == 1 && so || !so && parts.length > 2) {
            return true;
        }
        for (int i = 0; i + 1 < parts.length; i++) {
            int one = told(parts[i], numbers);
            int other = told(parts[i + 1], numbers);
            boolean is = op == 1 ? one != other : isSo(op, one, other);
            if (is != so) {
                return false;
            }
        }
        return true;
    }

    /** 3 ORDERED, held against a look at all small numbers: the parts lie 3 apart from a unit at most. */
    private static void ordered(Bench b) {
        Random r = new Random(3);
        int allowed = 0;
        for (int n = 0; n < 600; n++) {
            TheoryCourt x = Bench.court(NAMES);
            int count = 1 + r.nextInt(5);
            int[] ops = new int[count];
            int[][] parts = new int[count][];
            boolean[] opposite = new boolean[count];
            StringBuilder what = new StringBuilder();
            int made = 0;
            for (int i = 0; i < count; i++) {
                ops[i] = r.nextInt(6);
                parts[i] = new int[r.nextInt(4) == 0 && ops[i] != 1 ? 3 : 2];
                StringBuilder text = new StringBuilder("(" + OPS[ops[i]]);
                for (int j = 0; j < parts[i].length; j++) {
                    parts[i][j] = r.nextInt(INTS.length);
                    text.append(' ').append(INTS[parts[i][j]]);
                }
                opposite[i] = r.nextInt(3) > 0;
                made += add(x, (opposite[i] ? "~" : "") + text.append(')')) > 0 ? 1 : 0;
                what.append(opposite[i] ? " ~" : " ").append(text);
            }
            boolean possible = false;
            int[] at = new int[3];
            for (at[0] = -9; at[0] <= 12 && !possible; at[0]++) {
                for (at[1] = -9; at[1] <= 12 && !possible; at[1]++) {
                    for (at[2] = -9; at[2] <= 12 && !possible; at[2]++) {
                        possible = true;
                        for (int i = 0; i < count; i++) {
                            possible &= allows(ops[i], parts[i], opposite[i], at);
                        }
                    }
                }
            }
            allowed += possible ? 0 : 1;
            b.due("literals of" + what, made, count);
            b.due("step(3) of" + what, x.step(3, r.nextInt(), r.nextInt()), possible ? NONE : 0);
        }
        b.due("some of them were allowed", allowed > 50 && allowed < 550 ? 1 : 0, 1);
    }

    /** A CONSTANT its number, a PLUS its part and its number, all others any: one nearer, and it is not so any more. */
    private static void orderedEdges(Bench b) {
        exact(b, 3, "", "", "~(< x y)", "~(< y (+ x 1))");
        no(b, 3, "", "", "~(< x y)", "~(< y (+ x 2))");
        exact(b, 3, "", "", "~(<= x y)", "~(< y x)");
        no(b, 3, "", "", "~(<= x y)", "~(<= y x)");
        exact(b, 3, "", "", "(< x y)", "(> x (- y 1))");
        no(b, 3, "", "", "(< x y)", "(> x y)");
        exact(b, 3, "", "", "(<= x y)", "(>= x y)");
        exact(b, 3, "", "", "(distinct x y)", "~(< x y)");
        exact(b, 3, "", "", "~(= x 3)", "~(> x 3)");
        no(b, 3, "", "", "~(= x 3)", "~(>= x 3)");
        yes(b, 3, "", "", "~(= 3 4)");
        yes(b, 3, "", "", "(<= 3 3)");
        no(b, 3, "", "", "(= 3 3)");
        no(b, 3, "", "", "~(= 3 3)");
        yes(b, 3, "", "", "~(< x x)");
        yes(b, 3, "", "", "(<= x x)");
        yes(b, 3, "", "", "~(< (+ x 999999) (- x 999999))");
        exact(b, 3, "", "", "~(< (+ x 999999) y)", "~(< (+ y 999999) z)", "~(< z (+ x 999999))");
        exact(b, 3, "", "", "~(= (f x) 1)", "~(= (f x) 2)");
        no(b, 3, "", "", "~(= (f x) 1)", "~(= (f y) 2)", "~(= x y)");
        no(b, 3, "", "", "~(= (ite p 1 2) 3)");
        no(b, 3, "", "", "~(= (select (store a x 1) x) 2)");
        exact(b, 3, "", "", "~(< (ite p x y) x)", "~(> (ite p x y) x)");
        no(b, 3, "", "");
    }

    /** What says that two are not the same, and that one of more than two parts is not so, counts for nothing; nor do others. */
    private static void orderedCountsForNothing(Bench b) {
        no(b, 3, "", "", "(= x y)", "(< x y)", "(> x y)");
        no(b, 3, "", "", "(= x x)");
        no(b, 3, "", "", "~(distinct x x)");
        no(b, 3, "", "", "~(distinct x y)", "~(<= x y)", "~(<= y x)");
        no(b, 3, "", "", "~(distinct x y z)", "~(= x y z)");
        no(b, 3, "", "", "(< x y z)", "~(< x y)", "~(< y z)");
        no(b, 3, "", "", "(<= x x x)");
        no(b, 3, "", "", "(distinct x x x)");
        no(b, 3, "", "", "(distinct x y x)", "~(< x y)");
        exact(b, 3, "", "", "~(< x y z)", "~(< z y)");
        exact(b, 3, "", "", "~(= x y z)", "~(< x z)");
        exact(b, 3, "", "", "~(>= x y z)", "~(< x z)");
        exact(b, 3, "", "", "~(<= x y z 3)", "~(> x 3)");
        no(b, 3, "", "", "p", "~p");
        no(b, 3, "", "", "~(= p q)", "~(distinct p q)");
        no(b, 3, "", "", "~(= a b)", "~(distinct a b)");
        yes(b, 3, "", "", "~(< x x)", "~(= p q)", "(= a b)", "p", "(= x y)");
    }

    /** 4 ALIKE: JOINED of a and b, and for each place at which their parts are not one term, PARTED of these. */
    private static void alike(Bench b) {
        exact(b, 4, "(f x)", "(f y)", "(= (f x) (f y))", "~(= x y)");
        exact(b, 4, "(f x)", "(f y)", "(= (f y) (f x))", "~(= y x)");
        exact(b, 4, "(f x)", "(f x)", "(= (f x) (f x))");
        exact(b, 4, "(g x y)", "(g y x)", "(= (g x y) (g y x))", "~(= x y)");
        exact(b, 4, "(g x y)", "(g z y)", "(= (g x y) (g z y))", "~(= x z)");
        exact(b, 4, "(g x y)", "(g z x)", "(= (g x y) (g z x))", "~(= x z)", "~(= x y)");
        exact(b, 4, "(r x y)", "(r y y)", "(= (r y y) (r x y))", "~(= x y)");
        exact(b, 4, "(select a x)", "(select b y)", "(= (select a x) (select b y))", "~(= a b)", "~(= y x)");
        exact(b, 4, "(select a x)", "(select a y)", "(= (select a x) (select a y))", "~(= y x)");
        exact(b, 4, "(store a x 1)", "(store b y 2)", "(= (store a x 1) (store b y 2))", "~(= a b)", "~(= x y)", "~(= 1 2)");
        exact(b, 4, "(store a x 1)", "(store a x 2)", "(= (store a x 2) (store a x 1))", "~(= 1 2)");
        no(b, 4, "(f x)", "(h x)", "(= (f x) (h x))");
        no(b, 4, "(f x)", "(select a x)", "(= (f x) (select a x))");
        no(b, 4, "x", "x", "(= x x)");
        no(b, 4, "x", "y", "(= x y)", "~(= x y)");
        no(b, 4, "(+ x 1)", "(+ y 1)", "(= (+ x 1) (+ y 1))", "~(= x y)");
        no(b, 4, "(ite p x y)", "(ite p y y)", "(= (ite p x y) (ite p y y))", "~(= x y)");
        no(b, 4, "(not p)", "(not q)", "(= (not p) (not q))", "~(= p q)");
        no(b, 4, "(f x)", "(f y)", "(= (f x) (f z))", "~(= x y)");
        no(b, 4, "3", "3", "(= 3 3)");
    }

    /** 5 READ: JOINED of a and the STORE's third part; if the two places are not one term, PARTED of them, too. */
    private static void read(Bench b) {
        exact(b, 5, "(select (store a x 3) x)", "", "(= (select (store a x 3) x) 3)");
        exact(b, 5, "(select (store a x 3) y)", "", "(= 3 (select (store a x 3) y))", "~(= x y)");
        exact(b, 5, "(select (store a x 3) y)", "", "(= (select (store a x 3) y) 3)", "~(= y x)");
        exact(b, 5, "(select (store a x z) (+ x 1))", "", "(= (select (store a x z) (+ x 1)) z)", "~(= (+ x 1) x)");
        no(b, 5, "(select a x)", "", "(= (select a x) 3)");
        no(b, 5, "(select (ite p a b) x)", "", "(= (select (ite p a b) x) 3)", "~(= x y)");
        no(b, 5, "(store a x 3)", "", "(= (store a x 3) a)");
        no(b, 5, "(select (store a x 3) y)", "", "(= (select (store a x 3) y) x)", "~(= x y)");
        no(b, 5, "(f x)", "", "(= (f x) 3)");
        exact(b, 5, "(select (store (store a x 3) y z) y)", "", "(= (select (store (store a x 3) y z) y) z)");
    }

    /** 6 PASSED: b the SELECT of the STORE's first part at a's place: JOINED of a and b, and of the two places. */
    private static void passed(Bench b) {
        String a = "(select (store a x 3) y)";
        exact(b, 6, a, "(select a y)", "(= " + a + " (select a y))", "(= x y)");
        exact(b, 6, a, "(select a y)", "(= (select a y) " + a + ")", "(= y x)");
        exact(b, 6, "(select (store a x 3) x)", "(select a x)", "(= (select (store a x 3) x) (select a x))", "(= x x)");
        no(b, 6, a, "(select a x)", "(= " + a + " (select a x))", "(= x y)");
        no(b, 6, a, "(select b y)", "(= " + a + " (select b y))", "(= x y)");
        no(b, 6, "(select a y)", a, "(= " + a + " (select a y))", "(= x y)");
        no(b, 6, "(select a y)", "(select a y)", "(= (select a y) (select a y))", "(= y y)");
        no(b, 6, a, a, "(= " + a + " " + a + ")", "(= x y)");
        no(b, 6, a, "y", "(= " + a + " y)", "(= x y)");
        no(b, 6, a, "(store a y 3)", "(= " + a + " (select a y))", "(= x y)");
    }

    /** 7 CHOSEN: the opposite of its first part, and JOINED of a and the second; or its first part's literal, and of the third. */
    private static void chosen(Bench b) {
        exact(b, 7, "(ite p x y)", "", "~p", "(= (ite p x y) x)");
        exact(b, 7, "(ite p x y)", "", "p", "(= y (ite p x y))");
        exact(b, 7, "(ite (< x y) x y)", "", "~(< x y)", "(= (ite (< x y) x y) x)");
        exact(b, 7, "(ite p a b)", "", "p", "(= (ite p a b) b)");
        exact(b, 7, "(ite p a b)", "", "~p", "(= a (ite p a b))");
        yes(b, 7, "(ite p x x)", "", "p", "(= (ite p x x) x)");
        yes(b, 7, "(ite p x x)", "", "~p", "(= (ite p x x) x)");
        no(b, 7, "(ite p x y)", "", "p", "(= (ite p x y) x)");
        no(b, 7, "(ite p x y)", "", "~p", "(= (ite p x y) y)");
        no(b, 7, "(ite p q s)", "", "~p", "(= (ite p q s) q)");
        no(b, 7, "(ite p q s)", "", "p", "(= (ite p q s) s)");
        no(b, 7, "(and p q s)", "", "p", "(= (and p q s) s)");
        no(b, 7, "x", "", "p", "(= x x)");
        no(b, 7, "(store a x y)", "", "p", "(= (store a x y) a)");
    }

    /** 8 LINKED: JOINED of a and b, and those of its literals that are PARTED lead from a to b, one by one, either way. */
    private static void linked(Bench b) {
        exact(b, 8, "x", "z", "(= x z)", "~(= x y)", "~(= y z)");
        exact(b, 8, "z", "x", "(= x z)", "~(= y x)", "~(= z y)");
        exact(b, 8, "x", "x", "(= x x)");
        exact(b, 8, "p", "p", "(= p p)");
        exact(b, 8, "a", "a", "(= a a)");
        exact(b, 8, "p", "s", "(= s p)", "~(= p q)", "~(= s q)");
        exact(b, 8, "a", "(store a x 1)", "(= a (store a x 1))", "~(= a b)", "~(= (store a x 1) b)");
        // Others that are PARTED, beside the way, are read as more literals, which do no harm.
        yes(b, 8, "x", "z", "(= x z)", "~(= x y)", "~(= y z)", "~(= 1 2)", "~(= y 1)");
        yes(b, 8, "x", "x", "(= x x)", "~(= x y)");
        yes(b, 8, "x", "y", "(= x y)", "~(= x y)");
        yes(b, 8, "x", "y", "(= x y)", "~(= y x)");
        no(b, 8, "x", "y", "(= x y)");
        no(b, 8, "x", "y", "~(= x y)");
        no(b, 8, "x", "z", "(= x z)", "(= x y)", "(= y z)");
        no(b, 8, "x", "z", "(= x z)", "~(= x y z)");
        no(b, 8, "x", "z", "(= x y)", "~(= x y)", "~(= y z)");
        no(b, 8, "x", "z", "(= x y z)", "~(= x y)", "~(= y z)");
        no(b, 8, "x", "z", "(= x z)", "(distinct x y)", "(distinct y z)");
        no(b, 8, "x", "z", "~(distinct x z)", "~(= x y)", "~(= y z)");
        no(b, 8, "x", "z", "(= x z)", "~(= x y)", "~(= (+ y 1) z)");
    }

    /** A way of seven, its literals numbered from its end to its beginning, and none of them may be missing. */
    private static void linkedLong(Bench b) {
        String[] ways = {"~(= (not s) (not q))", "~(= s (not s))", "~(= q s)", "~(= false q)", "~(= true false)", "~(= p true)", "~(= p (not p))"};
        for (int without = -1; without < ways.length; without++) {
            TheoryCourt x = Bench.court(NAMES);
            for (int i = 0; i < ways.length; i++) {
                int l = literal(x, ways[i]);
                if (i != without) {
                    x.literal(l);
                }
            }
            add(x, "(= (not p) (not q))");
            b.due("a way without " + without, x.step(8, Bench.term(x, "(not p)"), Bench.term(x, "(not q)")), without < 0 ? 0 : NONE);
            x.clear();
        }
    }

    /** 9 SPLIT: of Ints a and b it has JOINED, and what says that a is below b, and that b is below a (LESS, MORE of two parts). */
    private static void split(Bench b) {
        exact(b, 9, "x", "y", "(= x y)", "(< x y)", "(< y x)");
        exact(b, 9, "y", "x", "(= x y)", "(< x y)", "(< y x)");
        exact(b, 9, "x", "y", "(= y x)", "(> y x)", "(> x y)");
        exact(b, 9, "x", "y", "(= y x)", "(< x y)", "(> x y)");
        exact(b, 9, "x", "(+ y 1)", "(= x (+ y 1))", "(< x (+ y 1))", "(> x (+ y 1))");
        exact(b, 9, "x", "x", "(= x x)", "(< x x)");
        exact(b, 9, "x", "x", "(= x x)", "(> x x)");
        no(b, 9, "x", "y", "(= x y)", "(< x y)", "(> y x)");
        no(b, 9, "x", "y", "(= x y)", "(< x y)", "(<= y x)");
        no(b, 9, "x", "y", "(= x y)", "(<= x y)", "(>= x y)");
        no(b, 9, "x", "y", "(= x y)", "~(>= x y)", "~(<= x y)");
        no(b, 9, "x", "y", "(= x y)", "(< x y)", "~(<= x y)");
        no(b, 9, "x", "y", "(= x y)", "(< x y z)", "(< y x z)");
        no(b, 9, "x", "y", "~(distinct x y)", "(< x y)", "(< y x)");
        no(b, 9, "x", "z", "(= x y)", "(< x y)", "(< y x)");
        no(b, 9, "p", "q", "(= p q)", "(< x y)", "(< y x)");
        no(b, 9, "a", "b", "(= a b)", "(< x y)", "(< y x)");
    }

    /** An EQUAL that has just these two as its parts, in either order; PARTED the opposite of such a one. */
    private static void joinedAndParted(Bench b) {
        no(b, 4, "(f x)", "(f y)", "(= (f x) (f y) (f x))", "~(= x y)");
        no(b, 4, "(f x)", "(f y)", "(= (f x) (f y))", "~(= x y x)");
        no(b, 4, "(f x)", "(f y)", "~(distinct (f x) (f y))", "~(= x y)");
        no(b, 4, "(f x)", "(f y)", "(= (f x) (f y))", "(distinct x y)");
        no(b, 4, "(f x)", "(f y)", "(= (f x) (f x))", "~(= x y)");
        no(b, 4, "(f x)", "(f y)", "(= (f x) (f y))", "~(= x x)");
        no(b, 4, "(f x)", "(f y)", "(<= (f x) (f y))", "~(<= x y)");
        no(b, 8, "x", "x", "(= x y)");
        no(b, 8, "x", "x", "(= x x x)");
        no(b, 5, "(select (store a x 3) x)", "", "(= (select (store a x 3) x) 3 3)");
    }

    /** refuted: the first STEP without literals; NONE. */
    private static void firstEmptyStep(Bench b) {
        TheoryCourt x = Bench.court(NAMES);
        Bench.run(x, "(assert p)");
        Bench.run(x, "(assert (not p))");
        b.due("without steps", x.refuted(), NONE);
        add(x, "p");
        b.due("step", x.step(0, 0, 0), 0);
        add(x, "(not p)");
        b.due("step", x.step(0, 1, 0), 1);
        add(x, "~p");
        add(x, "~(not p)");
        b.due("step", x.step(2, Bench.term(x, "(not p)"), 0), 2);
        add(x, "~p");
        b.due("step", x.step(1, 1, 2), 3);
        b.due("before it", x.refuted(), NONE);
        b.due("an empty one", x.step(1, 0, 3), 4);
        b.due("refuted", x.refuted(), 4);
        b.due("its length", x.clause(4, -1), 0);
        b.due("its first", x.clause(4, 0), NONE);
        b.due("another empty one", x.step(1, 3, 0), 5);
        b.due("the first of them", x.refuted(), 4);
        b.due("an empty draft is not enough by itself", x.step(3, 0, 0), NONE);
        Bench.run(x, "(push)");
        b.due("after push", x.refuted(), 4);
        Bench.run(x, "(pop)");
        b.due("after pop", x.refuted(), NONE);
    }
}
