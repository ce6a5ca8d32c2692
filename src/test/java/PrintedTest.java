/** Promises 6 and 7: rows that are long, deep or full of names, and indexes that have no byte. */
public final class PrintedTest {
    private static final Bench CHECK = new Bench();

    public static void main(String[] args) {
        skippedBinders();
        manyNames();
        longRow();
        noSuchByte();
        CHECK.end();
    }

    private static void skippedBinders() {
        String ten = "!a.!b.!c.!d.!e.!f.!g.!h.!i.!j.";
        TypeBench bench = new TypeBench();
        CHECK.due("9 skipped", Bench.told(bench, "below", ten + "a>b>j<1"), "false -1 [!!!!!!!!!!>9>80] 10 0");
        CHECK.due("10 skipped", Bench.told(bench, "below", ten + "!k.a>b>k<1"), "false -1 [!!!!!!!!!!!>9>90] 11 0");
    }

    private static void manyNames() {
        TypeBench bench = new TypeBench();
        StringBuilder uses = new StringBuilder();
        StringBuilder row = new StringBuilder(">");
        for (int i = 0; i < 33; i++) {
            uses.append('f');
            row.append(">>").append((char) ('a' + i)).append('1');
        }
        String text = "\\x.(\\f.x" + uses + ":(!a.a>1)>1)\\y.1";
        CHECK.due(text, Bench.told(bench, "infer", text), "true -1 [" + row + "11] 167 134");
    }

    private static void longRow() {
        TypeBench bench = new TypeBench();
        Bench.feed(bench, "\\z.(\\d.z(d(d(d(d(d(d1)))))):(!a.a>(a>a>a>a>a>a)>1)>1)\\x.\\y.1");
        CHECK.due("a long type", Bench.ask(bench, "infer"), "true");
        CHECK.due("size()", bench.size(), 111977);
        CHECK.due("out(0)", bench.out(0), '>');
        CHECK.due("out(13)", bench.out(13), '>');
        CHECK.due("the last byte", bench.out(111976), '1');
        CHECK.due("none", Bench.outAnswer(bench, 111977), "IndexOutOfBoundsException");
        int arrows = 0;
        for (int i = 0; i < bench.size(); i++) {
            arrows += bench.out(i) == '>' ? 1 : 0;
        }
        CHECK.due("arrows", arrows, 55988);
    }

    private static void noSuchByte() {
        TypeBench bench = new TypeBench();
        Bench.told(bench, "infer", "\\x.1");
        int[] outside = {-1, 3, 4, Integer.MAX_VALUE, Integer.MIN_VALUE};
        for (int i : outside) {
            CHECK.due("out(" + i + ")", Bench.outAnswer(bench, i), "IndexOutOfBoundsException");
        }
        CHECK.due("out(2)", Bench.outAnswer(bench, 2), "49");
        Bench.told(bench, "infer", "1 1");
        CHECK.due("out(0) where there is no type", Bench.outAnswer(bench, 0), "IndexOutOfBoundsException");
        CHECK.due("size() where there is no type", bench.size(), 0);
    }
}
