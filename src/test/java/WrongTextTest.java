/** Promises 3, 4 and 5: where a text is wrong, that nothing is printed then, and what is just right. */
public final class WrongTextTest {
    private static final Bench CHECK = new Bench();
    private static final TypeBench BENCH = new TypeBench();

    public static void main(String[] args) {
        terms();
        types();
        brackets();
        missing();
        afterwards();
        CHECK.end();
    }

    private static void wrong(String call, String text, int place) {
        Bench.told(BENCH, "infer", "\\x.x");
        CHECK.due(call + " " + text, Bench.told(BENCH, call, text), "IllegalArgumentException " + place + " [] 0 0");
    }

    private static void right(String call, String text) {
        Bench.feed(BENCH, text);
        CHECK.due(call + " " + text, Boolean.toString(Bench.ask(BENCH, call).endsWith("e")), "true");
        CHECK.due("place() after " + text, BENCH.place(), -1);
    }

    private static void terms() {
        wrong("infer", "x", 0);
        wrong("infer", "\\x.\\y.z", 6);
        wrong("infer", "(\\x.x)x", 6);
        wrong("infer", "\\X.1", 1);
        wrong("infer", "\\x,x", 2);
        wrong("infer", "\\1.1", 1);
        wrong("infer", "\\x.)", 3);
        wrong("infer", "()", 1);
        wrong("infer", "1)", 1);
        wrong("infer", "1:1", 1);
        wrong("infer", "\\x.x:1", 4);
        wrong("infer", "(1:1:1)", 4);
        wrong("infer", "((1:1)", 6);
        wrong("infer", "1 2", 2);
        wrong("infer", "1\t1", 1);
        wrong("infer", "1<1", 1);
        wrong("infer", "!a.a", 0);
        wrong("infer", "  ", 2);
        right("infer", " \\ x . ( x : 1 ) ");
        right("infer", "\\x.\\x.x(\\x.x)x");
    }

    private static void types() {
        wrong("infer", "\\a.(a:a)", 6);
        wrong("infer", "(1:(!a.a)>a)", 10);
        wrong("infer", "(1:!a.a a)", 8);
        wrong("infer", "(1:\\a.a)", 3);
        wrong("infer", "(1:1 1)", 5);
        wrong("below", "a<a", 0);
        wrong("below", "!a.a<!b.a", 8);
        wrong("below", "!a.(!b.b)>b<1", 10);
        wrong("below", "1>>1<1", 2);
        wrong("below", "1>1", 3);
        wrong("below", "(1<1)", 2);
        wrong("below", "1<1<1", 3);
        wrong("below", "1<1)", 3);
        wrong("below", "!A.1<1", 1);
        wrong("below", "!a1<1", 2);
        wrong("below", "1:1", 1);
        wrong("below", "", 0);
        right("below", "!a.!a.a>a < !z.(z)");
        right("below", " ( 1 ) < ! a . 1 ");
    }

    private static void brackets() {
        wrong("infer", "(((((((((1", 8);
        wrong("infer", "(((((((1:((1))", 10);
        wrong("below", "1<(((((((((", 10);
        right("infer", "((((((((1))))))))((((((((1))))))))");
        right("infer", "(((((((1:(1))))))))");
        right("below", "((((((((1))))))))<((((((((1))))))))");
    }

    private static void missing() {
        wrong("infer", "\\", 1);
        wrong("infer", "\\x.", 3);
        wrong("infer", "(1", 2);
        wrong("infer", "(1:!a.", 6);
        wrong("infer", "(1:1  ", 6);
        wrong("below", "1>", 2);
        wrong("below", "1<!", 3);
        wrong("below", "1<(1", 4);
        wrong("below", "1 < ", 4);
        wrong("infer", "\\x.".repeat(20), 60);
        wrong("below", "1>".repeat(30), 60);
    }

    private static void afterwards() {
        wrong("infer", "\\x.(", 4);
        CHECK.due("place() stays while bytes come", BENCH.feed('1', 1), 1);
        CHECK.due("place()", BENCH.place(), 4);
        CHECK.due("then right", Bench.told(BENCH, "infer", " "), "true -1 [1] 0 0");
    }
}
