import java.io.IOException;

/** Promises 8 and 9: what is counted, for which text, and the limit of 1,000. */
public final class UnknownsTest {
    private static final Bench CHECK = new Bench();
    // Needs 1,000 unknowns, and 1,001.
    private static final String AT_LIMIT = "\\x.\\y.(\\d.y1\\y.d(d(d\\x.d\\b.dd)):(!a.a>a>a)>1)\\x.\\y.y";
    private static final String ABOVE_LIMIT = "\\x.\\y.(\\d.y1\\y.d(d(d\\x.d\\b.dd)):!b.(!a.a>a>a)>1)\\x.\\y.y";

    public static void main(String[] args) throws IOException {
        CHECK.rows("limits.txt", 40);
        latestText();
        afterTheLimit();
        otherCalls();
        CHECK.end();
    }

    private static void counts(TypeBench bench, String when, int made, int solved) {
        CHECK.due("unknowns() " + when, bench.unknowns(), made);
        CHECK.due("solved() " + when, bench.solved(), solved);
    }

    // "How many unknowns were made for the latest text." "How many of these were solved."
    private static void latestText() {
        TypeBench bench = new TypeBench();
        counts(bench, "before any text", 0, 0);
        Bench.told(bench, "infer", "\\x.x 1");
        counts(bench, "after a type", 4, 3);
        Bench.told(bench, "infer", "\\x.x x");
        counts(bench, "where there is no type", 4, 1);
        Bench.told(bench, "infer", "1");
        counts(bench, "where none is made", 0, 0);
        Bench.told(bench, "below", "!a.1<1");
        counts(bench, "where one is made and none solved", 1, 0);
        Bench.told(bench, "below", "!a.a<1");
        counts(bench, "where one is made and solved", 1, 1);
        Bench.told(bench, "below", "!a.a<1>!b.b");
        counts(bench, "where it is not below", 3, 2);
        Bench.told(bench, "below", "!a.a<1)");
        counts(bench, "after a text that is wrong behind its types", 0, 0);
        Bench.told(bench, "infer", "\\x.x 1");
        Bench.told(bench, "infer", "");
        counts(bench, "after an empty text", 0, 0);
    }

    private static void afterTheLimit() {
        TypeBench bench = new TypeBench();
        for (int i = 0; i < 3; i++) {
            Bench.feed(bench, AT_LIMIT);
            CHECK.due("1,000 unknowns", Bench.ask(bench, "infer"), "true");
            counts(bench, "at the limit", 1000, 995);
            CHECK.due("1,001 unknowns", Bench.told(bench, "infer", ABOVE_LIMIT), "false -1 [] 1000 990");
            CHECK.due("the next text", Bench.told(bench, "infer", "\\x.x"), "true -1 [>aa] 2 1");
            CHECK.due("1,001 unknowns", Bench.told(bench, "infer", ABOVE_LIMIT), "false -1 [] 1000 990");
            CHECK.due("the next text", Bench.told(bench, "below", "!a.a<1"), "true -1 [!0] 1 1");
        }
    }

    private static void otherCalls() {
        TypeBench bench = new TypeBench();
        Bench.told(bench, "infer", "\\x.x 1");
        bench.feed('1', 1);
        counts(bench, "while the next text comes", 4, 3);
        Bench.feedAnswer(bench, '1', 9);
        Bench.outAnswer(bench, -1);
        counts(bench, "after refused calls", 4, 3);
    }
}
