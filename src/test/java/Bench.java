import java.nio.charset.StandardCharsets;

/** What the tests share: texts become feeds, and answers are held against those that are due. */
final class Bench {
    private final String title;
    private int looked = 0;
    private int wrong = 0;

    Bench(String title) {
        this.title = title;
    }

    void due(String what, long got, long want) {
        looked++;
        if (got != want) {
            wrong++;
            System.out.println(title + ": " + what + " answered " + got + ", due is " + want);
        }
    }

    void due(String what, String got, String want) {
        looked++;
        if (!got.equals(want)) {
            wrong++;
            System.out.println(title + ": " + what + " answered " + got + ", due is " + want);
        }
    }

    /** A command that must give this answer, without a fault. */
    void runs(TheoryCourt x, String text, int want) {
        due("run of " + text, run(x, text), want);
        due("place after " + text, x.place(), want >= 0 ? TheoryCourt.NONE : x.place());
    }

    /** A command that must fail so, at this place. */
    void fails(TheoryCourt x, String text, int want, int place) {
        due("run of " + text, run(x, text), want);
        due("place after " + text, x.place(), place);
    }

    /** All of these must be carried out. */
    static TheoryCourt court(String... texts) {
        TheoryCourt x = new TheoryCourt();
        for (String text : texts) {
            if (run(x, text) < 0) {
                throw new IllegalStateException("not carried out: " + text);
            }
        }
        return x;
    }

    static int term(TheoryCourt x, String text) {
        return run(x, "(term " + text + ")");
    }

    static int run(TheoryCourt x, String text) {
        feed(x, text);
        return x.run();
    }

    static void feed(TheoryCourt x, String text) {
        byte[] bytes = text.getBytes(StandardCharsets.ISO_8859_1);
        for (int from = 0; from < bytes.length; from += 20) {
            int[] words = new int[5];
            for (int i = 0; i < 20; i++) {
                int c = from + i < bytes.length ? bytes[from + i] & 255 : ' ';
                words[i / 4] = words[i / 4] << 8 | c;
            }
            x.feed(words[0], words[1], words[2], words[3], words[4]);
            if (bytes.length - from < 20) {
                x.end(bytes.length - from);
            }
        }
    }

    static String written(TheoryCourt x, int k) {
        int count = x.write(k);
        StringBuilder text = new StringBuilder();
        for (int i = 0; i < count; i++) {
            text.append((char) x.out(i));
        }
        return text.toString();
    }

    static String repeat(String text, int times) {
        StringBuilder all = new StringBuilder();
        for (int i = 0; i < times; i++) {
            all.append(text);
        }
        return all.toString();
    }

    void finish() {
        System.out.println(title + ": " + looked + " looked at, " + wrong + " wrong");
        if (wrong != 0 || looked == 0) {
            System.exit(1);
        }
    }
}
