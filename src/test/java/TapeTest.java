/** Promises 1 to 3: a new object, feed, end. */
public final class TapeTest {
    public static void main(String[] args) {
        Bench b = new Bench("TapeTest");
        newObject(b);
        tape(b);
        ends(b);
        b.finish();
    }

    private static void newObject(Bench b) {
        TheoryCourt x = new TheoryCourt();
        for (int what = 0; what <= 9; what++) {
            b.due("count(" + what + ") of a new one", x.count(what), 0);
        }
        b.due("place of a new one", x.place(), TheoryCourt.NONE);
        b.due("term of a new one", x.term(0, 0), TheoryCourt.NONE);
        b.due("asserted of a new one", x.asserted(0), TheoryCourt.NONE);
        b.due("check of a new one", x.check(), 1);
        b.due("sure of a new one", x.sure(), 1);
        b.due("core of a new one", x.core(0), TheoryCourt.NONE);
        b.due("out of a new one", x.out(0), TheoryCourt.NONE);
        b.due("clause of a new one", x.clause(-1, -1), 0);
        b.due("refuted of a new one", x.refuted(), TheoryCourt.NONE);
        b.due("symbol of a new one", x.symbol(0, -1), TheoryCourt.NONE);
        b.fails(x, "(pop)", -108, 1);
    }

    private static void tape(Bench b) {
        TheoryCourt x = new TheoryCourt();
        for (int i = 1; i <= 100; i++) {
            b.due("feed " + i, x.feed(0x20202020, 0x20202020, 0x20202020, 0x20202020, 0x20202020), 20 * i);
        }
        b.due("feed beyond 2000", x.feed(0, 0, 0, 0, 0), TheoryCourt.NONE);
        b.due("end after it", x.end(19), 1999);
        b.due("feed with 1999", x.feed(0, 0, 0, 0, 0), TheoryCourt.NONE);
        b.due("run of blanks", x.run(), -3);
        b.due("its place", x.place(), 1999);
        b.due("the tape is empty then", x.feed(0x28707573, 0x68290000, 0, 0, 0), 20);
        b.due("end", x.end(6), 6);
        b.due("the highest byte comes first", x.run(), 1);
        b.due("place", x.place(), TheoryCourt.NONE);
        b.due("the tape is empty after that, too", x.end(0), TheoryCourt.NONE);
        b.due("bytes above 127 are bytes", x.feed(0xFFFEFDFC, -1, -1, -1, -1), 20);
        b.due("and no tokens", x.run(), -3);
        b.due("at the first one", x.place(), 0);
    }

    private static void ends(Bench b) {
        TheoryCourt x = new TheoryCourt();
        b.due("end of nothing", x.end(0), TheoryCourt.NONE);
        x.feed(1, 2, 3, 4, 5);
        b.due("end(-1)", x.end(-1), TheoryCourt.NONE);
        b.due("end(21)", x.end(21), TheoryCourt.NONE);
        b.due("end(MIN)", x.end(Integer.MIN_VALUE), TheoryCourt.NONE);
        b.due("end(MAX)", x.end(Integer.MAX_VALUE), TheoryCourt.NONE);
        b.due("end(20)", x.end(20), 20);
        b.due("end(7)", x.end(7), 7);
        b.due("end with 7", x.end(3), TheoryCourt.NONE);
        b.due("feed", x.feed(1, 2, 3, 4, 5), 27);
        b.due("end(0)", x.end(0), 7);
        x.feed(1, 2, 3, 4, 5);
        x.feed(1, 2, 3, 4, 5);
        b.due("end(10)", x.end(10), 37);
        b.due("end(10) again", x.end(10), 27);
        b.due("end(0) again", x.end(0), 7);
    }
}
