/** Promise 1: nothing is read; and what promises 5 to 9 say of that. */
public final class NewObjectTest {
    private static final Bench CHECK = new Bench();

    public static void main(String[] args) {
        nothingRead();
        emptyTape();
        apart();
        CHECK.end();
    }

    private static void nothingRead() {
        TypeBench bench = new TypeBench();
        CHECK.due("place()", bench.place(), -1);
        CHECK.due("size()", bench.size(), 0);
        CHECK.due("unknowns()", bench.unknowns(), 0);
        CHECK.due("solved()", bench.solved(), 0);
        CHECK.due("out(0)", Bench.outAnswer(bench, 0), Bench.OUT_OF_BOUNDS);
        CHECK.due("out(1)", Bench.outAnswer(bench, 1), Bench.OUT_OF_BOUNDS);
        CHECK.due("out(-1)", Bench.outAnswer(bench, -1), Bench.OUT_OF_BOUNDS);
        CHECK.due("the first byte", Bench.feedAnswer(bench, '1', 1), "1");
    }

    private static void emptyTape() {
        CHECK.due("infer", Bench.told(new TypeBench(), "infer", ""), Bench.ILLEGAL_ARGUMENT + " 0 [] 0 0");
        CHECK.due("below", Bench.told(new TypeBench(), "below", ""), Bench.ILLEGAL_ARGUMENT + " 0 [] 0 0");
    }

    private static void apart() {
        TypeBench first = new TypeBench();
        Bench.told(first, "infer", "\\x.x 1");
        first.feed('1', 1);
        TypeBench second = new TypeBench();
        CHECK.due("a second object", Bench.left(second), "-1 [] 0 0");
        CHECK.due("its tape", Bench.told(second, "infer", ")"), Bench.ILLEGAL_ARGUMENT + " 0 [] 0 0");
        CHECK.due("the first one", Bench.left(first), "-1 [>>1aa] 4 3");
        CHECK.due("its tape", Bench.told(first, "infer", ""), "true -1 [1] 0 0");
    }
}
