import com.sun.management.ThreadMXBean;
import java.lang.management.ManagementFactory;

/** "All memory is rows made once.": behind the constructor, only an exception that is due makes an object. */
public final class MemoryTest {
    // Needs 1,000 unknowns, more than that, only a few, and none.
    private static final String[] TERMS = {
        "\\x.\\y.(\\d.y1\\y.d(d(d\\x.d\\b.dd)):(!a.a>a>a)>1)\\x.\\y.y",
        "\\x.\\y.(\\d.y1\\y.d(d(d\\x.d\\b.dd)):!b.(!a.a>a>a)>1)\\x.\\y.y",
        "\\f.\\x.f(f x)",
        "(1:!a.1)",
    };
    private static final String[] PAIRS = {"!a.a<((!b.1)>1)>1", "!a.a>a<1>1", "1<1>1"};

    public static void main(String[] args) {
        Bench check = new Bench();
        if (ManagementFactory.getThreadMXBean() instanceof ThreadMXBean counter
                && counter.isThreadAllocatedMemorySupported() && counter.isThreadAllocatedMemoryEnabled()) {
            // The machine itself makes an object now and then, when it loads a class for one.
            long least = Long.MAX_VALUE;
            for (int i = 0; i < 10; i++) {
                least = Math.min(least, round(counter));
            }
            check.due("bytes that 35 texts made", least, 0);
        }
        check.end();
    }

    private static long round(ThreadMXBean counter) {
        TypeBench bench = new TypeBench();
        long before = counter.getCurrentThreadAllocatedBytes();
        for (int i = 0; i < 5; i++) {
            for (String term : TERMS) {
                Bench.feed(bench, term);
                bench.infer();
                look(bench);
            }
            for (String pair : PAIRS) {
                Bench.feed(bench, pair);
                bench.below();
                look(bench);
            }
        }
        return counter.getCurrentThreadAllocatedBytes() - before;
    }

    private static void look(TypeBench bench) {
        int size = bench.size();
        if (size > 0) {
            bench.out(0);
            bench.out(size - 1);
        }
        bench.place();
        bench.unknowns();
        bench.solved();
    }
}
