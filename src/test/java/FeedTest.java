/** Promise 2: how many bytes may come, which of them, how many the tape holds, and what is refused. */
public final class FeedTest {
    private static final Bench CHECK = new Bench();
    private static final long BLANKS = 0x2020202020202020L;
    private static final long CLOSES = 0x2929292929292929L;

    public static void main(String[] args) {
        oneToEight();
        wrongCounts();
        lowestBytes();
        highestFirst();
        howMany();
        upToSixty();
        refusedLeavesTheTape();
        bothWrong();
        allBytes();
        CHECK.end();
    }

    private static TypeBench filled(int count) {
        TypeBench bench = new TypeBench();
        for (int i = 1; i <= count; i++) {
            CHECK.due("feed of byte " + i, Bench.feedAnswer(bench, ' ', 1), Integer.toString(i));
        }
        return bench;
    }

    private static void oneToEight() {
        for (int n = 1; n <= 8; n++) {
            CHECK.due("feed(.., " + n + ")", Bench.feedAnswer(new TypeBench(), BLANKS, n), Integer.toString(n));
        }
    }

    private static void wrongCounts() {
        // Some of these would be right if only their lowest bits were looked at.
        int[] counts = {0, 9, -1, 10, 16, 60, 61, 64, 257, 264, 65537, -8, Integer.MIN_VALUE, Integer.MIN_VALUE + 1,
            Integer.MAX_VALUE};
        TypeBench bench = new TypeBench();
        for (int n : counts) {
            CHECK.due("feed(1, " + n + ")", Bench.feedAnswer(bench, 1L, n), Bench.ILLEGAL_ARGUMENT);
        }
        CHECK.due("the tape after that", Bench.feedAnswer(bench, '1', 1), "1");
        for (int n : counts) {
            CHECK.due("feed(1, " + n + ")", Bench.feedAnswer(bench, 1L, n), Bench.ILLEGAL_ARGUMENT);
        }
        CHECK.due("what was on the tape", Bench.told(bench, "infer", ""), "true -1 [1] 0 0");
    }

    // "the lowest n of bytes": what stands above them is not on the tape.
    private static void lowestBytes() {
        for (int n = 1; n <= 8; n++) {
            TypeBench bench = new TypeBench();
            long above = n == 8 ? 0L : CLOSES << 8 * n;
            long lowest = n == 8 ? -1L : (1L << 8 * n) - 1;
            long one = (BLANKS & lowest & ~255L) | '1';
            CHECK.due("feed of " + n, Bench.feedAnswer(bench, above | one, n), Integer.toString(n));
            CHECK.due(n + " lowest bytes", Bench.told(bench, "infer", ""), "true -1 [1] 0 0");
        }
    }

    // "the highest of these first": a ) among blanks is wrong where it stands.
    private static void highestFirst() {
        for (int n = 1; n <= 8; n++) {
            for (int place = 0; place < n; place++) {
                TypeBench bench = new TypeBench();
                long bytes = BLANKS ^ (long) (' ' ^ ')') << 8 * (n - 1 - place);
                bench.feed(bytes, n);
                CHECK.due("a ) of " + n, Bench.told(bench, "infer", ""), Bench.ILLEGAL_ARGUMENT + " " + place + " [] 0 0");
            }
        }
        TypeBench bench = new TypeBench();
        bench.feed(0x285c782e78293120L, 8);
        CHECK.due("(\\x.x)1", Bench.told(bench, "infer", ""), "true -1 [1] 2 2");
    }

    // "n bytes more on the tape: how many"
    private static void howMany() {
        TypeBench bench = new TypeBench();
        int count = 0;
        for (int n = 1; n <= 8; n++) {
            count += n;
            CHECK.due("feed(.., " + n + ")", Bench.feedAnswer(bench, BLANKS, n), Integer.toString(count));
        }
        CHECK.due("feed(.., 8)", Bench.feedAnswer(bench, BLANKS, 8), "44");
    }

    // "there would be more than 60": for each n, up to 59, to 60, and to 61 bytes.
    private static void upToSixty() {
        for (int n = 1; n <= 8; n++) {
            CHECK.due("to 59", Bench.feedAnswer(filled(59 - n), BLANKS, n), "59");
            CHECK.due("to 60", Bench.feedAnswer(filled(60 - n), BLANKS, n), "60");
            CHECK.due("to 61", Bench.feedAnswer(filled(61 - n), BLANKS, n), Bench.ILLEGAL_STATE);
            CHECK.due("a full tape", Bench.feedAnswer(filled(60), BLANKS, n), Bench.ILLEGAL_STATE);
        }
    }

    private static void refusedLeavesTheTape() {
        TypeBench bench = filled(55);
        CHECK.due("to 61", Bench.feedAnswer(bench, CLOSES, 6), Bench.ILLEGAL_STATE);
        CHECK.due("to 63", Bench.feedAnswer(bench, CLOSES, 8), Bench.ILLEGAL_STATE);
        CHECK.due("to 60", Bench.feedAnswer(bench, 0x2020202031L, 5), "60");
        CHECK.due("to 61", Bench.feedAnswer(bench, CLOSES, 1), Bench.ILLEGAL_STATE);
        CHECK.due("60 bytes", Bench.told(bench, "infer", ""), "true -1 [1] 0 0");
        CHECK.due("the next tape", Bench.feedAnswer(bench, '1', 1), "1");
        CHECK.due("its one byte", Bench.told(bench, "infer", ""), "true -1 [1] 0 0");
    }

    private static void bothWrong() {
        TypeBench bench = filled(60);
        int[] counts = {0, 9, -1, Integer.MIN_VALUE, Integer.MAX_VALUE};
        for (int n : counts) {
            CHECK.due("n is " + n + ", a full tape", Bench.feedAnswer(bench, BLANKS, n), Bench.ILLEGAL_ARGUMENT);
        }
    }

    // Each byte 0 .. 255 behind a right term; those that may stand there are 1, \, ( and a blank.
    private static void allBytes() {
        for (int sign = 0; sign <= 255; sign++) {
            TypeBench bench = new TypeBench();
            bench.feed('1', 1);
            bench.feed(sign, 1);
            Bench.ask(bench, "infer");
            int place = sign == '\\' || sign == '(' ? 2 : sign == ' ' || sign == '1' ? -1 : 1;
            CHECK.due("place() of 1 and byte " + sign, bench.place(), place);
        }
    }
}
