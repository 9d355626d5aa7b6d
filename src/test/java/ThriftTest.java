import com.sun.management.ThreadMXBean;
import java.lang.management.ManagementFactory;
import java.util.ArrayList;
import java.util.List;

/**
 * All calls of one run live in one room, in which nothing is ever thrown away: an object makes its rows once, and
 * its calls make next to nothing. What the machine counts is bytes: an element has four of them, as a rule.
 */
public final class ThriftTest {
    private static final long NEW_OBJECT = 120000;
    private static final long ALL_CALLS = 150000;
    private static final ThreadMXBean MACHINE = (ThreadMXBean) ManagementFactory.getThreadMXBean();
    private static final String[] NAMES = {"(declare-const u Int)", "(declare-const v Int)", "(declare-const w Int)",
        "(declare-const p Bool)", "(declare-const q Bool)", "(declare-const a (Array Int Int))",
        "(declare-const b (Array Int Int))", "(declare-fun f (Int) Int)"};
    private static final String[] HARD = {
        "(assert (xor p q (= a b) (= u (+ v 7)) (< v w) (= (f u) w) (distinct u v w)))",
        "(assert (= (f v) (ite (< u 5) (select a u) (f w))))", "(assert (xor (= a (store b v w)) (< w u) (= (f v) 9)))"};

    public static void main(String[] args) {
        Bench b = new Bench("ThriftTest");
        play(new ArrayList<>());
        List<Long> made = new ArrayList<>();
        long before = MACHINE.getThreadAllocatedBytes(Thread.currentThread().getId());
        TheoryCourt x = new TheoryCourt();
        long used = MACHINE.getThreadAllocatedBytes(Thread.currentThread().getId()) - before;
        b.due("a new object has room for its rows in " + used + " bytes", used < NEW_OBJECT ? 1 : 0, 1);
        b.due("it is new", x.count(1), 0);
        play(made);
        for (int i = 0; i < made.size(); i++) {
            b.due("the calls of run " + i + " made " + made.get(i) + " bytes", made.get(i) < ALL_CALLS ? 1 : 0, 1);
        }
        b.finish();
    }

    private static void play(List<Long> made) {
        made.add(spent(ThriftTest::questions));
        made.add(spent(ThriftTest::definitions));
        made.add(spent(ThriftTest::proofs));
    }

    private interface Calls {
        void make(TheoryCourt x);
    }

    /** What the calls make, and what Bench makes of their texts. */
    private static long spent(Calls calls) {
        TheoryCourt x = new TheoryCourt();
        long before = MACHINE.getThreadAllocatedBytes(Thread.currentThread().getId());
        calls.make(x);
        return MACHINE.getThreadAllocatedBytes(Thread.currentThread().getId()) - before;
    }

    private static void questions(TheoryCourt x) {
        for (String text : NAMES) {
            Bench.run(x, text);
        }
        for (String text : HARD) {
            Bench.run(x, text);
        }
        for (int i = 0; i < 12; i++) {
            Bench.run(x, "(push)");
            Bench.run(x, i % 2 == 0 ? "(assert (< u v))" : "(assert (and p (not p)))");
            x.check();
            x.value(0);
            x.core(0);
            x.holds(3);
            x.apart(0, 1);
            x.sure();
            x.write(5);
            Bench.run(x, "(pop)");
        }
    }

    private static void definitions(TheoryCourt x) {
        String body = Bench.repeat("(not ", 15) + "t" + Bench.repeat(")", 15);
        for (int i = 0; i < 20; i++) {
            Bench.run(x, "(push)");
            Bench.run(x, "(define-fun d ((t Bool)) Bool " + body + ")");
            Bench.run(x, "(term (d (d true)))");
            Bench.run(x, "(pop)");
        }
    }

    private static void proofs(TheoryCourt x) {
        for (String text : NAMES) {
            Bench.run(x, text);
        }
        Bench.run(x, "(term (and (= u u) (or p q) (< u v w)))");
        for (int i = 0; i < 100; i++) {
            x.literal(2 + 2 * (i % 4));
            x.literal(7);
            x.step(i % 10, i % 8, i % 5);
            x.refuted();
        }
    }
}
