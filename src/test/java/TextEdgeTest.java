/** The document's part 1, TEXT: of each sentence the last text that is taken, and the first that is not. */
public final class TextEdgeTest {
    private static final String MARKS = "_.!-+<>=";
    private static final String[] WORDS = {"declare-const", "declare-fun", "define-fun", "assert", "term", "push", "pop",
        "let", "ite", "select", "store", "and", "or", "not", "xor", "true", "false", "distinct", "Int", "Bool", "Array",
        "=", "=>", "<", "<=", ">", ">=", "+", "-"};
    private static final String OPS = " ite select store and or not xor => = distinct < <= > >= + - ";
    /** One of each form; all tokens have blanks between them. */
    private static final String[] COMMANDS = {
        "( declare-const n Int )", "( declare-const n ( Array Int Int ) )", "( declare-fun h ( ) Bool )",
        "( declare-fun h ( Int Int ) Int )", "( declare-fun h ( ) ( Array Int Int ) )",
        "( define-fun d ( ) Int 1 )", "( define-fun d ( ( u Int ) ( v ( Array Int Int ) ) ) Bool ( < u 1 ) )",
        "( assert true )", "( assert ( let ( ( u 1 ) ( v false ) ) ( or v ( = u 1 ) ) ) )",
        "( term ( f ( select a 3 ) ) )", "( term x )", "( push )", "( pop )"};

    public static void main(String[] args) {
        Bench b = new Bench("TextEdgeTest");
        tape(b);
        emptied(b);
        blanks(b);
        bytesWithinSymbols(b);
        bytesThatBegin(b);
        bytesAlone(b);
        numerals(b);
        symbols(b);
        longest(b);
        words(b);
        wordsAsTerms(b);
        forms(b);
        cutForms(b);
        brokenForms(b);
        lists(b);
        places(b);
        manyTokens(b);
        manyOpen(b);
        manyTerms(b);
        aheadOfAll(b);
        b.finish();
    }

    private static TheoryCourt court() {
        return Bench.court("(declare-const x Int)", "(declare-const a (Array Int Int))", "(declare-fun f (Int) Int)",
            "(push)", "(assert (< x 3))");
    }

    private static void syntax(Bench b, String text, int place) {
        b.refuses(court(), text, -3, place);
    }

    /** THE TAPE has bytes, 2000 at most: a command may fill it, and may lie anywhere on it. */
    private static void tape(Bench b) {
        b.runs(new TheoryCourt(), " ".repeat(1994) + "(push)", 1);
        b.runs(new TheoryCourt(), "(push)" + " ".repeat(1994), 1);
        b.fails(new TheoryCourt(), " ".repeat(1995) + "(push", -3, 2000);
        b.fails(new TheoryCourt(), " ".repeat(1999) + ")", -3, 1999);
        TheoryCourt x = new TheoryCourt();
        Bench.feed(x, " ".repeat(1980) + "(push" + " ".repeat(15));
        b.due("a feed too many", x.feed(0x29202020, 0x20202020, 0x20202020, 0x20202020, 0x20202020), -1);
        b.due("none of its bytes came", x.run(), -3);
        b.due("place", x.place(), 2000);
    }

    /** run() empties it, whatever it answers. */
    private static void emptied(Bench b) {
        TheoryCourt x = new TheoryCourt();
        String[] texts = {"(declare-const longish Int)", "(declare-const longish Int)", "(declare-const longish Int))", "(pop)"};
        int[] wants = {0, -102, -3, -108};
        for (int i = 0; i < texts.length; i++) {
            b.due("run of " + texts[i], Bench.run(x, texts[i]), wants[i]);
            b.due("end after it", x.end(20), -1);
            b.due("feed after it", x.feed(0, 0, 0, 0, 0), 20);
            b.due("end then", x.end(0), 0);
        }
        b.due("run of nothing", x.run(), -3);
        b.due("its place", x.place(), 0);
    }

    /** BLANKS are 9, 10, 13, 32: none is needed beside a parenthesis, any number may be anywhere else. */
    private static void blanks(Bench b) {
        for (char c : new char[] {9, 10, 13, 32}) {
            String s = String.valueOf(c);
            b.runs(court(), "(declare-const" + s + "n" + s + "Int)", 3);
            b.runs(court(), s + "(" + s + s + "push" + s + ")" + s, 2);
            syntax(b, s + s + s, 3);
        }
        for (char c : new char[] {0, 8, 11, 12, 14, 31, 34, 127, 128, 133, 160, 255}) {
            syntax(b, "(declare-const" + c + "n Int)", 14);
            syntax(b, c + "(push)", 0);
            syntax(b, "(push)" + c, 6);
            syntax(b, "(push)  " + c + " ", 8);
        }
        b.runs(court(), "(term(f(f(- 1))))", 6);
        b.runs(court(), "(declare-fun h(Int)Int)", 3);
        b.runs(court(), "(term(let((u 1)(v 2))(+ u(+ v 3))))", 6);
        syntax(b, "(declare-constn Int)", 1);
        syntax(b, "(push )(", 7);
    }

    private static boolean isSymbolByte(int c) {
        return c >= 'a' && c <= 'z' || c >= 'A' && c <= 'Z' || isDigit(c) || c > 0 && MARKS.indexOf(c) >= 0;
    }

    private static boolean isDigit(int c) {
        return c >= '0' && c <= '9';
    }

    private static boolean isBlank(int c) {
        return c == 9 || c == 10 || c == 13 || c == 32;
    }

    /** Letters, digits and these eight: each of the 256 bytes goes on with a SYMBOL, or it does not. */
    private static void bytesWithinSymbols(Bench b) {
        for (char c = 0; c < 256; c++) {
            TheoryCourt x = new TheoryCourt();
            String text = "(declare-const n" + c + "m Int)";
            if (isSymbolByte(c)) {
                b.runs(x, text, 0);
                b.due("length with byte " + (int) c, x.symbol(0, -1), 3);
                b.due("byte " + (int) c, x.symbol(0, 1), c);
            } else {
                b.fails(x, text, -3, isBlank(c) || c == '(' ? 17 : 16);
            }
        }
    }

    /** Not beginning with a digit. */
    private static void bytesThatBegin(Bench b) {
        for (char c = 0; c < 256; c++) {
            TheoryCourt x = new TheoryCourt();
            String text = "(declare-const " + c + "m Int)";
            if (isSymbolByte(c) && !isDigit(c)) {
                b.runs(x, text, 0);
                b.due("first byte " + (int) c, x.symbol(0, 0), c);
            } else if (isBlank(c)) {
                b.runs(x, text, 0);
            } else {
                b.fails(x, text, -3, 15);
            }
        }
    }

    /** Each byte where a term is due: a digit is a NUMERAL, five marks are WORDS, others are NAMES that there are not. */
    private static void bytesAlone(Bench b) {
        for (char c = 0; c < 256; c++) {
            TheoryCourt x = new TheoryCourt();
            String text = "(term " + c + ")";
            if (isDigit(c)) {
                b.runs(x, text, 0);
                b.due("number of " + c, x.term(0, 2), c - '0');
            } else if (isSymbolByte(c) && "-+<>=".indexOf(c) < 0) {
                b.fails(x, text, -101, 6);
            } else {
                b.fails(x, text, -3, isBlank(c) || c == '(' ? 7 : 6);
            }
        }
    }

    /** NUMERALS: 1 .. 6 digits, not beginning with 0 but for 0 itself, not right before what a SYMBOL may have. */
    private static void numerals(Bench b) {
        for (int number : new int[] {0, 1, 9, 10, 99, 100, 99999, 100000, 100001, 999998, 999999}) {
            TheoryCourt x = new TheoryCourt();
            b.runs(x, "(term " + number + ")", 0);
            b.due("number of " + number, x.term(0, 2), number);
        }
        String[] none = {"00", "01", "000000", "0999999", "1000000", "9999999", "10000000000", "1a", "1Z", "12_", "999999a",
            "1.", "1!", "1-", "1+", "1<", "1>", "1=", "0x", "0-", "1-1"};
        for (String text : none) {
            syntax(b, "(term " + text + ")", 6);
            syntax(b, "(term (f " + text + "))", 9);
        }
        b.runs(court(), "(term (f 1))", 4);
        b.runs(court(), "(term (+ 1(- 1)))", 5);
        syntax(b, "(term 1#)", 7);
        syntax(b, "(declare-const 1 Int)", 15);
        syntax(b, "(1)", 1);
    }

    /** 16 bytes at most, wherever the symbol stands; great and small letters are two. */
    private static void symbols(Bench b) {
        for (int length = 1; length <= 16; length++) {
            TheoryCourt x = new TheoryCourt();
            b.runs(x, "(declare-const " + "n".repeat(length) + " Int)", 0);
            b.due("length", x.symbol(0, -1), length);
        }
        String over = "n".repeat(17);
        syntax(b, "(declare-const " + over + " Int)", 15);
        syntax(b, "(declare-const " + "n".repeat(1900) + " Int)", 15);
        syntax(b, "(declare-const n " + over + ")", 17);
        syntax(b, "(term " + over + ")", 6);
        syntax(b, "(term (" + over + " 1))", 7);
        syntax(b, "(term (let ((" + over + " 1)) 1))", 13);
        syntax(b, "(" + over + ")", 1);
        syntax(b, over, 0);
        b.fails(court(), "(term " + "n".repeat(16) + ")", -101, 6);
        TheoryCourt x = new TheoryCourt();
        b.runs(x, "(declare-const n Int)", 0);
        b.runs(x, "(declare-const N Bool)", 1);
        b.refuses(x, "(declare-const n Int)", -102, 15);
        b.runs(x, "(declare-const " + "n".repeat(15) + "m Int)", 2);
        b.runs(x, "(declare-const " + "n".repeat(16) + " Int)", 3);
        b.runs(x, "(declare-const " + "n".repeat(15) + " Int)", 4);
    }

    /** A token is as long as can be: what goes on is one token, and no WORD any more. */
    private static void longest(Bench b) {
        String[] names = {"Int1", "Ints", "push!", "-1", "--", "+1", "=>=", "<==", ">>", "==", "<>", "=<", "...", "let.", "true1",
            "trUe", "INT", "bool", "Assert", "declare-cons", "declare-const1", "Arra", "a", "_", "!"};
        for (String name : names) {
            TheoryCourt x = new TheoryCourt();
            b.runs(x, "(declare-const " + name + " Int)", 0);
            b.due("length of " + name, x.symbol(0, -1), name.length());
            b.runs(x, "(term " + name + ")", 0);
        }
        syntax(b, "(push1)", 1);
        syntax(b, "(assertx)", 1);
        b.fails(court(), "(term (=<x 3))", -101, 7);
        b.fails(court(), "(term (-1 x))", -101, 7);
    }

    /** WORDS are symbols that are no NAMES, at each place where a NAME is due. */
    private static void words(Bench b) {
        for (String word : WORDS) {
            syntax(b, "(declare-const " + word + " Int)", 15);
            syntax(b, "(declare-fun " + word + " () Int)", 13);
            syntax(b, "(define-fun " + word + " () Int 1)", 12);
            syntax(b, "(define-fun d ((" + word + " Int)) Int 1)", 16);
            syntax(b, "(define-fun d ((u Int) (" + word + " Int)) Int 1)", 24);
            syntax(b, "(term (let ((" + word + " 1)) 1))", 13);
            syntax(b, "(term (let ((u 1) (" + word + " 1)) 1))", 19);
        }
    }

    /** Of the WORDS true and false alone are terms, and the OPs alone (and let) stand behind a term's parenthesis. */
    private static void wordsAsTerms(Bench b) {
        for (String word : WORDS) {
            boolean isTerm = word.equals("true") || word.equals("false");
            if (isTerm) {
                b.runs(court(), "(assert " + word + ")", 1);
            } else {
                syntax(b, "(assert " + word + ")", 8);
            }
            if (OPS.contains(" " + word + " ")) {
                b.due("an OP, however many parts: " + word, Bench.run(court(), "(term (" + word + " x x x x x x x x))") != -3 ? 1 : 0, 1);
                syntax(b, "(term (" + word + "))", 7 + word.length());
            } else if (word.equals("let")) {
                syntax(b, "(term (let x))", 11);
            } else {
                syntax(b, "(term (" + word + " x))", 7);
            }
        }
    }

    /** Each form is a command; a pop of it goes with a push. */
    private static void forms(Bench b) {
        int[] wants = {3, 3, 3, 3, 3, 3, 3, 1, 1, 5, 0, 2, 0};
        for (int i = 0; i < COMMANDS.length; i++) {
            b.runs(court(), COMMANDS[i], wants[i]);
            b.runs(court(), COMMANDS[i].replace("( ", "(").replace(" )", ")"), wants[i]);
        }
    }

    /** Its place is how long the text is for its end. */
    private static void cutForms(Bench b) {
        for (String command : COMMANDS) {
            for (int end = command.lastIndexOf(' '); end >= 0; end = command.lastIndexOf(' ', end - 1)) {
                syntax(b, command.substring(0, end), end);
                syntax(b, command.substring(0, end) + "  ", end + 2);
            }
        }
    }

    /** Its place is the first byte of the first token that cannot stand there, or where none begins. */
    private static void brokenForms(Bench b) {
        for (String command : COMMANDS) {
            String[] tokens = command.split(" ");
            int place = 0;
            for (int i = 0; i <= tokens.length; i++) {
                String before = command.substring(0, Math.min(place, command.length()));
                String gap = i == tokens.length ? " " : "";
                String behind = i == tokens.length ? "" : command.substring(place + tokens[i].length());
                for (String wrong : new String[] {";", "#", "007", "term", "n".repeat(17)}) {
                    if (!wrong.equals("term") || i != 1) {
                        syntax(b, before + gap + wrong + behind, place);
                    }
                }
                place += i == tokens.length ? 0 : tokens[i].length() + 1;
            }
        }
    }

    /** { } is none, one or many; what stands outside it is due once. */
    private static void lists(Bench b) {
        b.runs(court(), "(declare-fun h (Int) Int)", 3);
        b.runs(court(), "(declare-fun h (Int Int Int) Int)", 3);
        b.runs(court(), "(define-fun h ((u Int)) Int 1)", 3);
        b.runs(court(), "(term (let ((u 1)) u))", 3);
        syntax(b, "(term (let () 1))", 12);
        syntax(b, "(term (let (()) 1))", 13);
        syntax(b, "(term (let ((u 1)) ))", 19);
        syntax(b, "(term (let ((u 1)) u u))", 21);
        syntax(b, "(term (let ((u 1 1)) u))", 17);
        syntax(b, "(term (f))", 8);
        syntax(b, "(term ())", 7);
        syntax(b, "(term ((f 1) 1))", 7);
        syntax(b, "(term)", 5);
        syntax(b, "(term x x)", 8);
        syntax(b, "(define-fun d (u Int) Int 1)", 15);
        syntax(b, "(define-fun d (()) Int 1)", 16);
        syntax(b, "(define-fun d ((u Int Int)) Int 1)", 22);
        syntax(b, "(declare-fun h ((Int)) Int)", 17);
        syntax(b, "(declare-fun h ((Array Int)) Int)", 26);
        syntax(b, "(declare-const n (Array Int Int Int))", 32);
        syntax(b, "(declare-const n (Array Bool Int))", 24);
        syntax(b, "(declare-const n Array)", 17);
        syntax(b, "(declare-const n ())", 18);
        syntax(b, "(push) (push)", 7);
        syntax(b, "(push (push))", 6);
    }

    private static void places(Bench b) {
        syntax(b, "", 0);
        syntax(b, "    ", 4);
        syntax(b, "\n\t(\r", 4);
        syntax(b, "  push", 2);
        syntax(b, "(nix # ;", 1);
        syntax(b, "# (nix", 0);
        syntax(b, "(term 00 01)", 6);
        syntax(b, "(term x\n\n 00)", 10);
    }

    /** Also the 401st token: at it, whatever it is; 400 are no SYNTAX. */
    private static void manyTokens(Bench b) {
        String head = "(declare-fun h (";
        b.refuses(court(), head + "Int ".repeat(393) + ") Int)", -104, head.length() + 12);
        syntax(b, head + "Int ".repeat(394) + ") Int)", head.length() + 4 * 394 + 5);
        syntax(b, head + "Int ".repeat(395) + ") Int)", head.length() + 4 * 395 + 2);
        String full = head + "Int ".repeat(393) + ") Int)";
        b.refuses(court(), full + "   ", -104, head.length() + 12);
        for (String more : new String[] {")", "(", "x", "1", "00", "#", "n".repeat(17)}) {
            syntax(b, full + " " + more, full.length() + 1);
        }
        String open = head + "Int ".repeat(396);
        syntax(b, open, open.length());
        syntax(b, open + "Int", open.length());
        syntax(b, open + "Int #", open.length());
    }

    /** The 21st ( that is open at once: at it; 20 may be, again and again. */
    private static void manyOpen(Bench b) {
        b.runs(court(), "(term " + "(f ".repeat(4) + "0" + ")".repeat(5), 7);
        b.runs(court(), "(term " + "(+ 1 ".repeat(19) + "1" + ")".repeat(20), 21);
        syntax(b, "(term " + "(+ 1 ".repeat(20) + "1" + ")".repeat(21), 6 + 19 * 5);
        String deep = "(+ 1 ".repeat(18) + "1" + ")".repeat(18);
        b.runs(court(), "(term (+ " + deep + " " + deep + "))", 21);
        b.fails(court(), "(term " + "(let ((u ".repeat(6) + "(f p)" + ")) u)".repeat(6) + ")", -101, 63);
        b.runs(court(), "(term (f " + "(let ((u ".repeat(6) + "1" + ")) u)".repeat(6) + "))", 4);
        syntax(b, "(term (f (f " + "(let ((u ".repeat(6) + "1" + ")) u)".repeat(6) + ")))", 12 + 5 * 9 + 6);
        String lets = "(term " + "(let ((u 1)) ".repeat(17);
        b.runs(court(), lets + "u" + ")".repeat(18), 3);
        syntax(b, lets + "(let ((u 1)) u)" + ")".repeat(18), lets.length() + 6);
        syntax(b, "(term " + "(".repeat(25), 7);
    }

    /** The ninth term of one ( OP or ( NAME: at it, whatever it is; a let may have as many as it likes. */
    private static void manyTerms(Bench b) {
        for (String head : new String[] {"and", "f", "nix", "-", "ite"}) {
            String eight = "(term (" + head + " x x x x x x x x";
            b.due("eight terms of " + head, Bench.run(court(), eight + "))") != -3 ? 1 : 0, 1);
            for (String ninth : new String[] {"x", "1", "true", "(f x)", "(let ((u 1)) u)", "Int", "#", "00"}) {
                syntax(b, eight + " " + ninth + "))", eight.length() + 1);
            }
            syntax(b, eight, eight.length());
        }
        b.runs(court(), "(term (let ((u 1)(u1 1)(u2 1)(u3 1)(u4 1)(u5 1)(u6 1)(u7 1)(u8 1)) (+ u u1)))", 4);
        b.runs(court(), "(term (+ (+ 1 1 1 1 1 1 1 1) 1 1 1 1 1 1 (+ 1 1 1 1 1 1 1 1)))", 5);
    }

    /** It is looked for ahead of all else. */
    private static void aheadOfAll(Bench b) {
        syntax(b, "(declare-const x Int", 20);
        syntax(b, "(assert nix))", 12);
        syntax(b, "(assert (f true) 1)", 17);
        syntax(b, "(declare-fun h (Bool) Int) x", 27);
        TheoryCourt x = Bench.court("(push)");
        Bench.run(x, "(pop)");
        b.refuses(x, "(pop 1)", -3, 5);
        b.refuses(x, "(pop)", -108, 1);
    }
}
