/** Promise 2: which bytes come on the tape, how many it holds, and what is refused. */
public final class FeedTest {
    private static final long BLANKS = 0x2020202020202020L;

    public static void main(String[] args) {
        Bench check = new Bench();
        wrongCounts(check);
        orderOfBytes(check);
        fullTape(check);
        usedUpTape(check);
        check.end();
    }

    private static void wrongCounts(Bench check) {
        int[] counts = {0, 9, -1, 64, Integer.MIN_VALUE, Integer.MAX_VALUE};
        TypeBench bench = new TypeBench();
        for (int n : counts) {
            check.due("feed(1, " + n + ")", Bench.feedAnswer(bench, 1L, n), "IllegalArgumentException");
        }
        check.due("the tape after that", Bench.feedAnswer(bench, BLANKS, 8), "8");
    }

    private static void orderOfBytes(Bench check) {
        TypeBench bench = new TypeBench();
        check.due("the lowest 4 of 8", bench.feed(0x2929292900000000L | 0x5c782e78L, 4), 4);
        check.due("\\x.x", Bench.ask(bench, "infer"), "true");
        check.due("printed", Bench.printed(bench), ">aa");
        check.due("all 8", bench.feed(0x285c782e78293120L, 8), 8);
        check.due("(\\x.x)1", Bench.ask(bench, "infer"), "true");
        check.due("printed", Bench.printed(bench), "1");
        check.due("a high byte", bench.feed(0xff31L, 2), 2);
        check.due("byte 255", Bench.ask(bench, "infer"), "IllegalArgumentException");
        check.due("place()", bench.place(), 0);
    }

    private static void fullTape(Bench check) {
        TypeBench bench = new TypeBench();
        for (int i = 1; i <= 7; i++) {
            check.due("feed", bench.feed(BLANKS, 8), 8L * i);
        }
        check.due("61 .. 64 bytes", Bench.feedAnswer(bench, BLANKS, 5), "IllegalStateException");
        check.due("60 bytes", Bench.feedAnswer(bench, 0x20202031L, 4), "60");
        check.due("one more", Bench.feedAnswer(bench, '1', 1), "IllegalStateException");
        check.due("a wrong n on a full tape", Bench.feedAnswer(bench, '1', 0), "IllegalArgumentException");
        check.due("60 bytes", Bench.told(bench, "infer", ""), "true -1 [1] 0 0");
        check.due("a new tape", Bench.feedAnswer(bench, '1', 1), "1");
    }

    private static void usedUpTape(Bench check) {
        TypeBench bench = new TypeBench();
        Bench.feed(bench, ")");
        check.due("wrong", Bench.ask(bench, "infer"), "IllegalArgumentException");
        check.due("used up when it throws", Bench.feedAnswer(bench, '1', 1), "1");
        check.due("wrong", Bench.ask(bench, "below"), "IllegalArgumentException");
        check.due("used up when it throws", Bench.feedAnswer(bench, '1', 1), "1");
        check.due("right", Bench.ask(bench, "infer"), "true");
        check.due("used up", Bench.feedAnswer(bench, '1', 1), "1");
        check.due("feed leaves the printed row", Bench.printed(bench), "1");
    }
}
