/** "An object is used for at most 512 calls after it has been made": all of these answer as the first ones do. */
public final class CallsTest {
    private static final Bench CHECK = new Bench();
    // Needs 1,000 unknowns and is 52 bytes long: seven calls of feed.
    private static final String LARGE = "\\x.\\y.(\\d.y1\\y.d(d(d\\x.d\\b.dd)):(!a.a>a>a)>1)\\x.\\y.y";

    public static void main(String[] args) {
        smallTexts();
        largeTexts();
        wrongTexts();
        CHECK.end();
    }

    // Eight calls a round, 64 rounds.
    private static void smallTexts() {
        TypeBench bench = new TypeBench();
        for (int calls = 0; calls < Bench.CALLS; calls += 8) {
            CHECK.due("feed", bench.feed(0x5c782e78L, 4), 4);
            CHECK.due("infer", Bench.ask(bench, "infer"), "true");
            CHECK.due("place", bench.place(), -1);
            CHECK.due("size", bench.size(), 3);
            CHECK.due("out", bench.out(0), '>');
            CHECK.due("unknowns", bench.unknowns(), 2);
            CHECK.due("solved", bench.solved(), 1);
            CHECK.due("out", bench.out(2), 'a');
        }
    }

    // Eight calls a round: what one round leaves may not fill the rows of the next.
    private static void largeTexts() {
        TypeBench bench = new TypeBench();
        for (int calls = 0; calls < Bench.CALLS - 8; calls += 8) {
            Bench.feed(bench, LARGE);
            CHECK.due("infer", Bench.ask(bench, "infer"), "true");
        }
        CHECK.due("size", bench.size(), 249);
        CHECK.due("unknowns", bench.unknowns(), 1000);
        CHECK.due("solved", bench.solved(), 995);
        CHECK.due("feed", bench.feed('1', 1), 1);
        CHECK.due("infer", Bench.ask(bench, "infer"), "true");
        CHECK.due("size", bench.size(), 1);
        CHECK.due("out", bench.out(0), '1');
        CHECK.due("call 512", bench.unknowns(), 0);
    }

    private static void wrongTexts() {
        TypeBench bench = new TypeBench();
        for (int calls = 0; calls < Bench.CALLS - 2; calls += 2) {
            bench.feed(0x5c782e28313a2861L, 8);
            CHECK.due("infer", Bench.ask(bench, "infer"), Bench.ILLEGAL_ARGUMENT);
        }
        bench.feed('1', 1);
        CHECK.due("call 512", Bench.ask(bench, "infer"), "true");
    }
}
