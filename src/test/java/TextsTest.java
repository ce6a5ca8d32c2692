/** What "Terms" says of texts: 60 bytes, blanks, nesting, what is bound, and where a text is wrong. */
public final class TextsTest {
    private static final Bench CHECK = new Bench();

    public static void main(String[] args) {
        sixtyBytes();
        blanks();
        blankIsByte32();
        wrongTerms();
        wrongTypes();
        missing();
        missingBehindSixtyBytes();
        brackets();
        besideOneAnother();
        deepest();
        CHECK.end();
    }

    private static void wrong(String call, String text, int place) {
        TypeBench bench = Bench.asked("infer", "\\x.x");
        CHECK.due(call + " " + text, Bench.told(bench, call, text), Bench.ILLEGAL_ARGUMENT + " " + place + " [] 0 0");
    }

    private static void told(String call, String text, String want) {
        CHECK.due(call + " " + text, Bench.told(new TypeBench(), call, text), want);
    }

    // "TEXTS have at most 60 bytes": of 59 and of 60; FeedTest has 61.
    private static void sixtyBytes() {
        for (int length = 58; length <= 60; length++) {
            told("infer", " ".repeat(length - 1) + "1", "true -1 [1] 0 0");
            told("infer", "1" + " ".repeat(length - 1), "true -1 [1] 0 0");
            told("infer", "\\x.x" + " ".repeat(length - 5) + "1", "true -1 [>>1aa] 4 3");
            told("below", "1" + " ".repeat(length - 3) + "<1", "true -1 [1] 0 0");
            wrong("infer", " ".repeat(length - 1) + ")", length - 1);
            wrong("infer", "1" + " ".repeat(length - 2) + ")", length - 1);
            wrong("below", "1<1" + " ".repeat(length - 4) + "<", length - 1);
            wrong("infer", " ".repeat(length), length);
            wrong("below", " ".repeat(length), length);
        }
        told("infer", "1".repeat(60), "false -1 [] 0 0");
        told("infer", "\\x.".repeat(19) + "1 1", "false -1 [] 38 0");
    }

    // "blanks may stand anywhere"
    private static void blanks() {
        told("infer", " ( \\ x . x : ! a . a > a ) ", "true -1 [!>00] 0 0");
        told("infer", "  (  \\  x  .  x  )  1  ", "true -1 [1] 2 2");
        told("below", " ! a . ( a ) > a < 1 > 1 ", "true -1 [!>00] 1 1");
        String[] texts = {"(\\x.x:!a.(a)>a)1", "\\f.(f(\\y.1 y))"};
        for (String text : texts) {
            String want = Bench.told(new TypeBench(), "infer", text);
            for (int i = 0; i <= text.length(); i++) {
                told("infer", text.substring(0, i) + " " + text.substring(i), want);
                told("infer", text.substring(0, i) + "      " + text.substring(i), want);
            }
        }
        wrong("infer", "   )", 3);
        wrong("infer", "( \\ x .  y", 9);
        wrong("below", " 1   1", 5);
    }

    private static void blankIsByte32() {
        int[] others = {0, 9, 10, 11, 12, 13, 28, 31, 95, 127, 133, 160, 255};
        for (int sign : others) {
            wrong("infer", (char) sign + "1", 0);
            wrong("infer", "1" + (char) sign, 1);
            wrong("infer", "\\" + (char) sign + "x.1", 1);
            wrong("below", "1<1" + (char) sign, 3);
        }
    }

    private static void wrongTerms() {
        wrong("infer", "x", 0);
        wrong("infer", "\\x.\\y.z", 6);
        wrong("infer", "(\\x.x)x", 6);
        wrong("infer", "\\x.(\\y.y)y", 9);
        wrong("infer", "(\\x.1)(\\y.x)", 10);
        wrong("infer", "\\X.1", 1);
        wrong("infer", "\\x,x", 2);
        wrong("infer", "\\xy.1", 2);
        wrong("infer", "\\.1", 1);
        wrong("infer", "\\1.1", 1);
        wrong("infer", "\\x.)", 3);
        wrong("infer", "()", 1);
        wrong("infer", "1)", 1);
        wrong("infer", "1:1", 1);
        wrong("infer", "\\x.x:1", 4);
        wrong("infer", "(:1)", 1);
        wrong("infer", "(1:)", 3);
        wrong("infer", "(1:1:1)", 4);
        wrong("infer", "((1:1)", 6);
        wrong("infer", "1 2", 2);
        wrong("infer", "1 0", 2);
        wrong("infer", "1<1", 1);
        wrong("infer", "1>1", 1);
        wrong("infer", "!a.a", 0);
    }

    private static void wrongTypes() {
        wrong("infer", "\\a.(a:a)", 6);
        wrong("infer", "(1:(!a.a)>a)", 10);
        wrong("infer", "(1:!a.a a)", 8);
        wrong("infer", "(1:\\a.a)", 3);
        wrong("infer", "(1:1 1)", 5);
        wrong("infer", "(1:1<1)", 4);
        wrong("below", "a<a", 0);
        wrong("below", "!a.a<a", 5);
        wrong("below", "!a.a<!b.a", 8);
        wrong("below", "!a.(!b.b)>b<1", 10);
        wrong("below", "!a.b<1", 3);
        wrong("below", "()<1", 1);
        wrong("below", "1>>1<1", 2);
        wrong("below", ">1<1", 0);
        wrong("below", "<1", 0);
        wrong("below", "1<<1", 2);
        wrong("below", "(1<1)", 2);
        wrong("below", "1<1<1", 3);
        wrong("below", "1<1)", 3);
        wrong("below", "!A.1<1", 1);
        wrong("below", "!a1<1", 2);
        wrong("below", "!.1<1", 1);
        wrong("below", "1:1", 1);
        wrong("below", "1;1", 1);
        wrong("below", "1=1", 1);
        wrong("below", "2<1", 0);
        wrong("below", "0<1", 0);
        wrong("below", "1 1<1", 2);
    }

    // "(its length when something is missing)": each beginning of a text that can't end there.
    private static void missing() {
        String term = "(\\x.(x:!a.(a)>a))";
        for (int length = 0; length < term.length(); length++) {
            wrong("infer", term.substring(0, length), length);
            wrong("infer", term.substring(0, length) + "   ", length + 3);
        }
        told("infer", term, "false -1 [] 4 1");
        String pair = "!a.(a>!b.b)>(1)<(!a.1>a)";
        for (int length = 0; length < pair.length(); length++) {
            wrong("below", pair.substring(0, length), length);
            wrong("below", pair.substring(0, length) + "   ", length + 3);
        }
        told("below", pair, "false -1 [!>>0!01] 1 0");
        wrong("infer", "\\x.", 3);
        wrong("infer", "1(", 2);
        wrong("infer", "1 \\x", 4);
        wrong("below", "1", 1);
        wrong("below", "1<1>", 4);
    }

    private static void missingBehindSixtyBytes() {
        wrong("infer", "\\x.".repeat(20), 60);
        wrong("infer", "(" + " ".repeat(59), 60);
        wrong("infer", "(" + "1".repeat(59), 60);
        wrong("below", "1>".repeat(30), 60);
        wrong("below", "1>".repeat(29) + " 1", 60);
        wrong("below", "1" + " ".repeat(58) + "<", 60);
        wrong("infer", "\\x.".repeat(19) + "\\x", 59);
        wrong("below", "1>".repeat(29) + "1", 59);
    }

    // "At most 8 ( within one another (wrong at the ninth)": 7, 8 and 9, split over terms and types.
    private static void brackets() {
        for (int count = 7; count <= 9; count++) {
            String opened = "(".repeat(count);
            String closed = ")".repeat(count);
            bracketed("infer", opened + "1" + closed, count, 8, "true -1 [1] 0 0");
            bracketed("infer", opened + "\\x.x" + closed, count, 8, "true -1 [>aa] 2 1");
            bracketed("infer", "1 " + opened + "1" + closed, count, 10, "false -1 [] 0 0");
            bracketed("infer", opened + "1:1" + closed, count, 8, "true -1 [1] 0 0");
            bracketed("below", opened + "1" + closed + "<1", count, 8, "true -1 [1] 0 0");
            bracketed("below", "1<" + opened + "1" + closed, count, 10, "true -1 [1] 0 0");
            for (int terms = 1; terms < count; terms++) {
                String text = "(".repeat(terms) + "1:" + "(".repeat(count - terms) + "1" + closed;
                bracketed("infer", text, count, 10, "true -1 [1] 0 0");
            }
        }
        wrong("infer", "(".repeat(60), 8);
        wrong("below", "(".repeat(60), 8);
        wrong("infer", " ( ( ( ( ( ( ( ( (", 17);
    }

    private static void bracketed(String call, String text, int count, int ninth, String want) {
        if (count > 8) {
            wrong(call, text, ninth);
        } else {
            told(call, text, want);
        }
    }

    private static void besideOneAnother() {
        told("infer", "(1)".repeat(20), "false -1 [] 0 0");
        told("infer", "((((((((1))))))))((((((((1))))))))", "false -1 [] 0 0");
        told("infer", "((((((((1)(1)))))))(1))", "false -1 [] 0 0");
        told("infer", "(((((((1:((1)))))))))", Bench.ILLEGAL_ARGUMENT + " 10 [] 0 0");
        told("infer", "(((((((1:(1)>(1))))))))", "false -1 [] 0 0");
        told("below", "(1)>(1)>(1)>(1)>(1)>(1)>(1)>(1)>(1)>(1)<1", "false -1 [" + ">1".repeat(9) + "1] 0 0");
        told("below", "((((((((1))))))))<((((((((1))))))))", "true -1 [1] 0 0");
    }

    /** The texts that nest deepest: no limit but those of bytes and brackets may be felt. */
    private static void deepest() {
        told("below", "1>".repeat(28) + "1<1", "false -1 [" + ">1".repeat(28) + "1] 0 0");
        told("below", "1<" + "1>".repeat(28) + "1", "false -1 [1] 0 0");
        told("below", "((((((((" + "1>".repeat(20) + "1))))))))<1", "false -1 [" + ">1".repeat(20) + "1] 0 0");
        told("below", "!a.".repeat(19) + "a<1", "true -1 [" + "!".repeat(19) + "0] 19 1");
        told("below", "1<" + "!a.".repeat(19) + "1", "true -1 [1] 0 0");
        told("infer", "\\x.".repeat(19) + "111", "false -1 [] 38 0");
        told("infer", "((((((((" + "\\x.".repeat(13) + "1 1))))))))", "false -1 [] 26 0");
        told("infer", "(1:" + "1>".repeat(27) + "1)", "false -1 [] 0 0");
        told("infer", "(" + "\\x.".repeat(10) + "1:" + "1>".repeat(10) + "1)", "true -1 [" + ">1".repeat(10) + "1] 0 0");
        wrong("below", "((((((((" + "1>".repeat(26), 60);
        wrong("infer", "((((((((1:" + "1>".repeat(25), 60);
    }
}
