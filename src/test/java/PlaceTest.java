/** Promise 5: where the latest text was wrong; -1 when it was right, or there was none. */
public final class PlaceTest {
    private static final Bench CHECK = new Bench();

    public static void main(String[] args) {
        none();
        rightOnes();
        wrongOnes();
        latestOne();
        CHECK.end();
    }

    private static void place(TypeBench bench, String call, String text, int want) {
        Bench.feed(bench, text);
        Bench.ask(bench, call);
        CHECK.due("place() after " + call + " " + text, bench.place(), want);
    }

    private static void none() {
        TypeBench bench = new TypeBench();
        CHECK.due("place() of a new object", bench.place(), -1);
        bench.feed(')', 1);
        CHECK.due("place() before the text is asked about", bench.place(), -1);
        CHECK.due("a wrong count", Bench.feedAnswer(bench, ')', 9), Bench.ILLEGAL_ARGUMENT);
        CHECK.due("place() after a refused feed", bench.place(), -1);
    }

    // A term without a type and a type that is not below are right texts.
    private static void rightOnes() {
        TypeBench bench = new TypeBench();
        place(bench, "infer", "1", -1);
        place(bench, "infer", "1 1", -1);
        place(bench, "infer", "\\x.x x", -1);
        place(bench, "below", "1<1", -1);
        place(bench, "below", "1<1>1", -1);
    }

    // The first byte, the second, the last, and the length.
    private static void wrongOnes() {
        TypeBench bench = new TypeBench();
        place(bench, "infer", "", 0);
        place(bench, "below", "", 0);
        place(bench, "infer", ")1", 0);
        place(bench, "infer", "1)1", 1);
        place(bench, "infer", "(1)1)", 4);
        place(bench, "infer", "(1)(", 4);
        place(bench, "below", ")<1", 0);
        place(bench, "below", "1)<1", 1);
        place(bench, "below", "1<1)", 3);
        place(bench, "below", "1<1>", 4);
        for (int length = 1; length <= 60; length++) {
            bench = new TypeBench();
            place(bench, "infer", "1".repeat(length - 1) + ")", length - 1);
            place(bench, "infer", "(" + "1".repeat(length - 1), length);
        }
    }

    private static void latestOne() {
        TypeBench bench = new TypeBench();
        place(bench, "infer", "1)", 1);
        bench.feed('1', 1);
        CHECK.due("place() while the next text comes", bench.place(), 1);
        place(bench, "infer", "", -1);
        bench.feed('1', 1);
        CHECK.due("place() while the next text comes", bench.place(), -1);
        place(bench, "below", "", 1);
        place(bench, "below", "1<1", -1);
        place(bench, "infer", "((1", 3);
        place(bench, "infer", "1 1", -1);
    }
}
