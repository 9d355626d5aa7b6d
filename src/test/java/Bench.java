import java.nio.charset.StandardCharsets;

/** What the tests share: texts become feeds, and answers are held against those that are due. */
final class Bench {
    private static final String[] GONE = {"(push)", "(declare-const z0 Bool)", "(define-fun z1 ((u Bool) (v Int) (w Int)) Bool u)",
        "(declare-fun z2 (Int Int Int) Bool)", "(declare-const z3 (Array Int Int))", "(define-fun z4 () Int 7)",
        "(assert (z2 z4 7 (select (store z3 7 8) 8)))", "(assert (not (= z0 z0 z0 z0 z0 z0 z0 z0)))",
        "(term (and (distinct 9 8 7) (< 7 8 9 7 8 9 7 8) (= z3 z3 z3) (or z0 z0 z0 z0 z0 z0 z0 (xor z0 z0 z0 z0 z0 z0 z0 z0))))"};

    private final String title;
    private int looked = 0;
    private int wrong = 0;

    Bench(String title) {
        this.title = title;
    }

    void due(String what, long got, long want) {
        looked++;
        if (got != want) {
            wrong++;
            System.out.println(title + ": " + what + " answered " + got + ", due is " + want);
        }
    }

    void due(String what, String got, String want) {
        looked++;
        if (!got.equals(want)) {
            wrong++;
            System.out.println(title + ": " + what + " answered " + got + ", due is " + want);
        }
    }

    /** A command that must give this answer, without a fault. */
    void runs(TheoryCourt x, String text, int want) {
        due("run of " + text, run(x, text), want);
        due("place after " + text, x.place(), want >= 0 ? TheoryCourt.NONE : x.place());
    }

    /** A command that must fail so, at this place. */
    void fails(TheoryCourt x, String text, int want, int place) {
        due("run of " + text, run(x, text), want);
        due("place after " + text, x.place(), place);
    }

    /** A command that must fail so, and leave all that can be seen as it was, but for the place. */
    void refuses(TheoryCourt x, String text, int want, int place) {
        String before = seen(x);
        fails(x, text, want, place);
        due("what is seen after " + text, seen(x), before);
        due("bytes on the tape after " + text, x.end(20), TheoryCourt.NONE);
    }

    /** All that a small court tells of itself, but for the place of its latest run. */
    static String seen(TheoryCourt x) {
        StringBuilder all = new StringBuilder(counts(x));
        int symbols = x.count(0);
        for (int s = 0; s < symbols; s++) {
            all.append("| symbol");
            int length = x.symbol(s, -1);
            for (int i = -4; i < length; i++) {
                all.append(' ').append(x.symbol(s, i));
            }
        }
        int terms = x.count(1);
        for (int k = 0; k < terms; k++) {
            all.append("| term ").append(x.value(k));
            int parts = x.term(k, 3);
            for (int what = 0; what < 4 + parts; what++) {
                all.append(' ').append(x.term(k, what));
            }
        }
        int assertions = x.count(2);
        for (int i = 0; i < assertions; i++) {
            all.append("| assertion ").append(x.asserted(i)).append(' ').append(x.core(i));
        }
        return all.append(seenOfProofs(x)).append("| check ").append(x.check()).append(seenOfOut(x)).toString();
    }

    private static String seenOfProofs(TheoryCourt x) {
        StringBuilder all = new StringBuilder("| refuted ");
        all.append(x.refuted());
        int length = x.clause(-1, -1);
        for (int k = -1; length >= 0; k++) {
            all.append("| clause");
            for (int i = 0; i < length; i++) {
                all.append(' ').append(x.clause(k, i));
            }
            length = x.clause(k + 1, -1);
        }
        return all.toString();
    }

    private static String seenOfOut(TheoryCourt x) {
        StringBuilder all = new StringBuilder("| out ");
        for (int i = 0; x.out(i) >= 0; i++) {
            all.append(x.out(i)).append(' ');
        }
        return all.toString();
    }

    /** How many there are of each, which a full court tells in few calls. */
    static String counts(TheoryCourt x) {
        StringBuilder all = new StringBuilder();
        for (int what = 0; what <= 9; what++) {
            all.append(x.count(what)).append(' ');
        }
        return all.toString();
    }

    /** All of these must be carried out. */
    static TheoryCourt court(String... texts) {
        return carryOut(new TheoryCourt(), texts);
    }

    private static TheoryCourt carryOut(TheoryCourt x, String... texts) {
        for (String text : texts) {
            if (run(x, text) < 0) {
                throw new IllegalStateException("not carried out: " + text);
            }
        }
        return x;
    }

    /** The same, but behind a level that was full of other things, and has gone: nothing of it may be seen. */
    static TheoryCourt worn(String... texts) {
        TheoryCourt x = court(GONE);
        int last = x.count(1) - 1;
        for (int step = 0; step < 2; step++) {
            for (int t = last; x.clause(-1, -1) < 7; t--) {
                x.literal(2 * t + step);
            }
            x.literal(2 * x.asserted(step));
            x.step(0, step, 0);
        }
        x.value(last);
        x.core(0);
        x.holds(last);
        x.literal(2 * last);
        return carryOut(carryOut(x, "(pop)"), texts);
    }

    static int term(TheoryCourt x, String text) {
        return run(x, "(term " + text + ")");
    }

    static int run(TheoryCourt x, String text) {
        feed(x, text);
        return x.run();
    }

    static void feed(TheoryCourt x, String text) {
        byte[] bytes = text.getBytes(StandardCharsets.ISO_8859_1);
        for (int from = 0; from < bytes.length; from += 20) {
            int[] words = new int[5];
            for (int i = 0; i < 20; i++) {
                int c = from + i < bytes.length ? bytes[from + i] & 255 : ' ';
                words[i / 4] = words[i / 4] << 8 | c;
            }
            x.feed(words[0], words[1], words[2], words[3], words[4]);
            if (bytes.length - from < 20) {
                x.end(bytes.length - from);
            }
        }
    }

    static String written(TheoryCourt x, int k) {
        int count = x.write(k);
        StringBuilder text = new StringBuilder();
        for (int i = 0; i < count; i++) {
            text.append((char) x.out(i));
        }
        return text.toString();
    }

    static String repeat(String text, int times) {
        StringBuilder all = new StringBuilder();
        for (int i = 0; i < times; i++) {
            all.append(text);
        }
        return all.toString();
    }

    void finish() {
        System.out.println(title + ": " + looked + " looked at, " + wrong + " wrong");
        if (wrong != 0 || looked == 0) {
            System.exit(1);
        }
    }
}
