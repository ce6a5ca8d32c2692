/** Promise 1: nothing is read; and what promises 5 to 9 say of that. */
public final class NewObjectTest {
    public static void main(String[] args) {
        Bench check = new Bench();
        TypeBench bench = new TypeBench();
        check.due("place()", bench.place(), -1);
        check.due("size()", bench.size(), 0);
        check.due("unknowns()", bench.unknowns(), 0);
        check.due("solved()", bench.solved(), 0);
        check.due("out(0)", Bench.outAnswer(bench, 0), "IndexOutOfBoundsException");
        check.due("out(-1)", Bench.outAnswer(bench, -1), "IndexOutOfBoundsException");
        check.due("feed", bench.feed('1', 1), 1);
        TypeBench other = new TypeBench();
        check.due("an empty tape", Bench.told(other, "infer", ""), "IllegalArgumentException 0 [] 0 0");
        check.due("the first object's tape", Bench.told(bench, "infer", ""), "true -1 [1] 0 0");
        check.end();
    }
}
