/**
 * "WRONG is a text at the first byte with which it can't be right, whatever follows": for beginnings of
 * texts, each of the 256 bytes that may come next. One that can't is wrong there; behind one that can,
 * the text is right, or something is missing, which is wrong at its length.
 */
public final class NextByteTest {
    private static final Bench CHECK = new Bench();
    private static final String LETTERS = "abcdefghijklmnopqrstuvwxyz";

    public static void main(String[] args) {
        terms();
        boundLetters();
        typesInTerms();
        pairsOfTypes();
        bracketsInTerms();
        bracketsInTypes();
        CHECK.end();
    }

    /** All bytes behind a beginning, and behind the same one with a blank between all its bytes. */
    private static void next(String call, String beginning, String signs) {
        allBytes(call, beginning, signs + " ");
        if (beginning.length() < 30) {
            allBytes(call, beginning.replace("", " "), signs + " ");
        }
    }

    private static void allBytes(String call, String beginning, String signs) {
        int length = beginning.length();
        TypeBench bench = new TypeBench();
        for (char sign = 0; sign <= 255; sign++) {
            // At most ten calls a byte, so 320 on one object.
            bench = sign % 32 == 0 ? new TypeBench() : bench;
            Bench.feed(bench, beginning + sign);
            String answer = Bench.ask(bench, call);
            boolean threw = answer.equals(Bench.ILLEGAL_ARGUMENT);
            int place = signs.indexOf(sign) < 0 ? length : threw ? length + 1 : -1;
            String what = call + " " + beginning + " and byte " + (int) sign;
            CHECK.due(what + ": place()", bench.place(), place);
            CHECK.due(what + ": throws", Boolean.toString(threw), Boolean.toString(place >= 0));
        }
    }

    private static void terms() {
        next("infer", "", "1\\(");
        next("infer", "1", "1\\(");
        next("infer", "\\", LETTERS);
        next("infer", "\\x", ".");
        next("infer", "\\x.", "1\\(x");
        next("infer", "\\x.x", "1\\(x");
        next("infer", "(", "1\\(");
        next("infer", "(1", "1\\(:)");
        next("infer", "(1)", "1\\(");
        next("infer", "((1)", "1\\(:)");
        next("infer", "(\\x.x", "1\\(x:)");
    }

    // "A letter is bound by the innermost backslash around it; one that is not is wrong."
    private static void boundLetters() {
        next("infer", "\\a.", "1\\(a");
        next("infer", "\\z.", "1\\(z");
        next("infer", "\\a.\\z.", "1\\(az");
        next("infer", "\\x.\\x.x", "1\\(x");
        next("infer", "(\\x.x)", "1\\(");
        next("infer", "\\x.(\\x.x)", "1\\(x");
        next("infer", "\\x.(\\y.y)", "1\\(x");
        next("infer", "\\x.(\\y.(\\z.", "1\\(xyz");
        next("infer", "(\\x.\\y.x)", "1\\(");
    }

    private static void typesInTerms() {
        next("infer", "(1:", "1!(");
        next("infer", "(1:1", ">)");
        next("infer", "(1:1>", "1!(");
        next("infer", "(1:1>1", ">)");
        next("infer", "(1:1)", "1\\(");
        next("infer", "(1:!", LETTERS);
        next("infer", "(1:!a", ".");
        next("infer", "(1:!a.", "1!(a");
        next("infer", "(1:!a.a", ">)");
        next("infer", "(1:!a.!z.", "1!(az");
        next("infer", "(1:!a.!a.a>", "1!(a");
        next("infer", "(1:(", "1!(");
        next("infer", "(1:(1", ">)");
        next("infer", "(1:(1)", ">)");
        next("infer", "(1:(!a.a)>", "1!(");
        next("infer", "(1:!b.(!a.a)>", "1!(b");
        next("infer", "\\a.(a:", "1!(");
        next("infer", "(\\a.a:!b.b)", "1\\(");
        next("infer", "((1:!b.b)1:", "1!(");
    }

    private static void pairsOfTypes() {
        next("below", "", "1!(");
        next("below", "1", "><");
        next("below", "1>", "1!(");
        next("below", "1>1", "><");
        next("below", "(", "1!(");
        next("below", "(1", ">)");
        next("below", "(1)", "><");
        next("below", "!", LETTERS);
        next("below", "!a", ".");
        next("below", "!a.", "1!(a");
        next("below", "!a.a", "><");
        next("below", "!a.(a", ">)");
        next("below", "1<", "1!(");
        next("below", "1<1", ">");
        next("below", "1<1>", "1!(");
        next("below", "1<(1", ">)");
        next("below", "1<(1)", ">");
        next("below", "1<!", LETTERS);
        next("below", "1<!z", ".");
        next("below", "1<!z.", "1!(z");
        next("below", "!a.a<", "1!(");
        next("below", "!a.a<!b.", "1!(b");
        next("below", "!a.(!b.b)>", "1!(a");
        next("below", "!a.(!a.a)>", "1!(a");
        next("below", "!a.!z.(!a.a)>", "1!(az");
    }

    // "At most 8 ( within one another (wrong at the ninth)": behind 7, and behind 8.
    private static void bracketsInTerms() {
        next("infer", "(((((((", "1\\(");
        next("infer", "((((((((", "1\\");
        next("infer", "(((((((1", "1\\(:)");
        next("infer", "((((((((1", "1\\:)");
        next("infer", "((((((((1)", "1\\(:)");
        next("infer", "((((((((1)(", "1\\");
        next("infer", "((((((((1))(", "1\\(");
        next("infer", "((((((((1))((", "1\\");
        next("infer", "((((((((1))))))))", "1\\(");
        next("infer", "((((((((1))))))))((((((((", "1\\");
        next("infer", "((((\\x.((((", "1\\x");
        next("infer", "((((\\x.(((", "1\\(x");
        next("infer", "(1(1(1(1(1(1(1(", "1\\");
    }

    private static void bracketsInTypes() {
        next("infer", "((((((((1:", "1!");
        next("infer", "(((((((1:", "1!(");
        next("infer", "(((((((1:(", "1!");
        next("infer", "(((((((1:(1)>", "1!(");
        next("infer", "(1:((((((", "1!(");
        next("infer", "(1:(((((((", "1!");
        next("infer", "(1:(1>(1>(1>(1>(1>(1>(", "1!");
        next("infer", "(1:(((((((1)))))))", ">)");
        next("infer", "(1:(((((((1))))))))", "1\\(");
        next("infer", "((1:((((((1))))))", ">)");
        next("below", "(((((((", "1!(");
        next("below", "((((((((", "1!");
        next("below", "((((((((1)", ">)");
        next("below", "((((((((1)>", "1!(");
        next("below", "((((((((1))))))))", "><");
        next("below", "1<(((((((", "1!(");
        next("below", "1<((((((((", "1!");
        next("below", "((((((((1))))))))<(((((((", "1!(");
        next("below", "((((((((1))))))))<((((((((", "1!");
        next("below", "!a.(!b.(!c.((((((", "1!abc");
    }
}
