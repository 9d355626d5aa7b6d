import java.nio.charset.StandardCharsets;
import java.nio.file.Files;
import java.nio.file.Path;
import java.util.List;

/**
 * Runs that were made by chance, with answers that a second program gave too: one that reads by recursion and
 * lets another solver find models, bounds and cores. A line is a command with its answer, or a call with its own.
 */
public final class RecordedTest {
    private static final String[] FILES = {"models.txt", "arrays.txt", "hard.txt", "full.txt", "reading.txt", "wild.txt",
        "proofs.txt"};

    public static void main(String[] args) throws Exception {
        Bench b = new Bench("RecordedTest");
        for (String file : FILES) {
            replay(b, file, Files.readAllLines(Path.of("src/test/data", file), StandardCharsets.UTF_8));
        }
        b.finish();
    }

    /** What an object answers after its 512th call is free, so such lines are left out. */
    private static void replay(Bench b, String file, List<String> lines) {
        TheoryCourt x = new TheoryCourt();
        int calls = 0;
        for (int i = 0; i < lines.size(); i++) {
            String line = lines.get(i);
            String where = file + " line " + (i + 1) + ": " + line;
            calls += callsOf(line);
            if (line.equals("new")) {
                x = new TheoryCourt();
                calls = 0;
            } else if (calls > 512) {
                continue;
            } else if (line.startsWith("run ")) {
                int tab = line.indexOf('\t');
                b.due(where, Bench.run(x, plain(line.substring(tab + 1))), Integer.parseInt(line.substring(4, tab)));
            } else {
                int is = line.indexOf(" = ");
                String[] words = line.substring(0, is).split(" ");
                String want = line.substring(is + 3);
                if (words[0].equals("text")) {
                    String text = Bench.written(x, number(words, 1));
                    b.due(where, text.length() + " " + text, want);
                } else {
                    b.due(where, answer(x, words), Long.parseLong(want));
                }
            }
        }
    }

    private static int callsOf(String line) {
        if (line.startsWith("run ")) {
            int length = plain(line.substring(line.indexOf('\t') + 1)).length();
            return length / 20 + 3;
        }
        if (line.startsWith("text ")) {
            String count = line.substring(line.indexOf(" = ") + 3);
            return 1 + Integer.parseInt(count.substring(0, count.indexOf(' ')));
        }
        return 1;
    }

    private static String plain(String text) {
        return text.replace("\\n", "\n").replace("\\t", "\t").replace("\\r", "\r");
    }

    private static int number(String[] words, int i) {
        return Integer.parseInt(words[i]);
    }

    private static long answer(TheoryCourt x, String[] w) {
        switch (w[0]) {
            case "place": return x.place();
            case "count": return x.count(number(w, 1));
            case "term": return x.term(number(w, 1), number(w, 2));
            case "asserted": return x.asserted(number(w, 1));
            case "check": return x.check();
            case "value": return x.value(number(w, 1));
            case "core": return x.core(number(w, 1));
            case "holds": return x.holds(number(w, 1));
            case "apart": return x.apart(number(w, 1), number(w, 2));
            case "write": return x.write(number(w, 1));
            case "symbol": return x.symbol(number(w, 1), number(w, 2));
            case "literal": return x.literal(number(w, 1));
            case "step": return x.step(number(w, 1), number(w, 2), number(w, 3));
            case "clear": return x.clear();
            case "clause": return x.clause(number(w, 1), number(w, 2));
            case "refuted": return x.refuted();
            case "sure": return x.sure();
            default: throw new IllegalStateException(w[0]);
        }
    }
}
