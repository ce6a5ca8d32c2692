/** Promises 6 and 7, and how a type is printed: digits, names, long rows, and indexes that have no byte. */
public final class PrintedTest {
    private static final Bench CHECK = new Bench();

    public static void main(String[] args) {
        digits();
        nineForMore();
        namesInPrintedOrder();
        manyNames();
        longRow();
        noSuchByte();
        nothingPrinted();
        CHECK.end();
    }

    private static void printed(String call, String text, String row) {
        TypeBench bench = new TypeBench();
        Bench.feed(bench, text);
        Bench.ask(bench, call);
        CHECK.due("printed for " + text, Bench.printed(bench), row);
        CHECK.due("size() for " + text, bench.size(), row.length());
    }

    // "a variable bound by ! as a digit: how many ! stand between it and its own"
    private static void digits() {
        printed("below", "1<1", "1");
        printed("below", "!a.a<1", "!0");
        printed("below", "!a.!b.a<1", "!!1");
        printed("below", "!a.!b.!c.a>b>c<1", "!!!>2>10");
        printed("below", "!a.(!b.b>a)>a<1", "!>!>010");
        printed("below", "!a.a>!b.a>b<1", "!>0!>10");
        printed("infer", "(\\x.x:!a.a>a)", "!>00");
        printed("infer", "(\\x.x:1>1)", ">11");
    }

    // "(9 for more)": 8, 9, 10 and 11 that stand between.
    private static void nineForMore() {
        String nine = "!a.!b.!c.!d.!e.!f.!g.!h.!i.";
        printed("below", nine + "a<1", "!!!!!!!!!8");
        printed("below", nine + "b<1", "!!!!!!!!!7");
        printed("below", nine + "!j.a<1", "!!!!!!!!!!9");
        printed("below", nine + "!j.b<1", "!!!!!!!!!!8");
        printed("below", nine + "!j.!k.a<1", "!!!!!!!!!!!9");
        printed("below", nine + "!j.!k.b<1", "!!!!!!!!!!!9");
        printed("below", nine + "!j.!k.c<1", "!!!!!!!!!!!8");
        printed("below", nine + "!j.!k.!l.a>b>c>d>l<1", "!!!!!!!!!!!!>9>9>9>80");
        printed("below", nine + "!j.!k.!l.!m.!n.!o.!p.!q.!r.a<1", "!".repeat(18) + "9");
    }

    // "a for the first one that is printed, b for the next": not the first one that was made.
    private static void namesInPrintedOrder() {
        printed("infer", "\\x.x", ">aa");
        printed("infer", "\\x.\\y.x", ">a>ba");
        printed("infer", "\\x.\\y.y", ">a>bb");
        printed("infer", "(\\x.\\y.y)1", ">aa");
        printed("infer", "\\x.\\y.\\z.z y x", ">a>b>>b>acc");
        printed("infer", "(\\x.\\y.\\z.y)(\\x.x)", ">a>ba");
        printed("infer", "(\\x.\\y.\\z.x)(\\x.x)", ">a>b>cc");
    }

    /** A term whose type has as many unknowns as it has an f: each f is another one > 1. */
    private static void manyNames() {
        for (int uses = 24; uses <= 36; uses++) {
            StringBuilder row = new StringBuilder(">");
            for (int i = 0; i < uses; i++) {
                row.append(">>").append((char) ('a' + i)).append('1');
            }
            String text = "\\x.(\\f.x" + "f".repeat(uses) + ":(!a.a>1)>1)\\y.1";
            printed("infer", text, row + "11");
        }
    }

    /** The type of d(d(..1)) grows sixfold with each d. */
    private static void longRow() {
        String text = "\\z.(\\d.z(d(d(d(d(d(d1)))))):(!a.a>(a>a>a>a>a>a)>1)>1)\\x.\\y.1";
        String part = "1";
        for (int i = 0; i < 6; i++) {
            part = ">" + (">" + part).repeat(5) + part + "1";
        }
        String row = ">>" + part + "11";
        TypeBench bench = Bench.asked("infer", text);
        CHECK.due("size()", bench.size(), row.length());
        CHECK.due("the last byte", bench.out(row.length() - 1), '1');
        CHECK.due("none", Bench.outAnswer(bench, row.length()), Bench.OUT_OF_BOUNDS);
        CHECK.due("a long row", Boolean.toString(Bench.longRow("infer", text).equals(row)), "true");
    }

    // "Byte i of them. IndexOutOfBoundsException: there is none."
    private static void noSuchByte() {
        TypeBench bench = new TypeBench();
        CHECK.due("out(0) of a new object", Bench.outAnswer(bench, 0), Bench.OUT_OF_BOUNDS);
        Bench.told(bench, "infer", "\\x.1");
        int[] outside = {-1, -2, 3, 4, 60, 256, Integer.MAX_VALUE, Integer.MIN_VALUE};
        for (int i : outside) {
            CHECK.due("out(" + i + ")", Bench.outAnswer(bench, i), Bench.OUT_OF_BOUNDS);
        }
        CHECK.due("out(0)", Bench.outAnswer(bench, 0), "62");
        CHECK.due("out(1)", Bench.outAnswer(bench, 1), "97");
        CHECK.due("out(2)", Bench.outAnswer(bench, 2), "49");
        Bench.told(bench, "infer", "1");
        CHECK.due("out(0) of one byte", Bench.outAnswer(bench, 0), "49");
        CHECK.due("out(1) of one byte", Bench.outAnswer(bench, 1), Bench.OUT_OF_BOUNDS);
        CHECK.due("out(-1) of one byte", Bench.outAnswer(bench, -1), Bench.OUT_OF_BOUNDS);
    }

    // "whether it has a type, which is printed then (otherwise nothing is)"
    private static void nothingPrinted() {
        String[][] texts = {{"infer", "1 1"}, {"infer", "x"}, {"infer", ""}, {"below", "1<"}, {"below", ""}, {"below", "a<1"}};
        for (String[] text : texts) {
            TypeBench bench = new TypeBench();
            Bench.told(bench, "infer", "\\x.x");
            Bench.told(bench, text[0], text[1]);
            CHECK.due("size() after " + text[1], bench.size(), 0);
            CHECK.due("out(0) after " + text[1], Bench.outAnswer(bench, 0), Bench.OUT_OF_BOUNDS);
            CHECK.due("out(-1) after " + text[1], Bench.outAnswer(bench, -1), Bench.OUT_OF_BOUNDS);
            CHECK.due("then a type", Bench.told(bench, "infer", "\\x.x"), "true -1 [>aa] 2 1");
        }
    }
}
