/** Promises 3 and 4: the tape is used up by each question, and what each answer leaves behind. */
public final class TapeTest {
    private static final Bench CHECK = new Bench();
    private static final String[][] TEXTS = {
        {"infer", "\\x.x", "true -1 [>aa] 2 1"},
        {"infer", "\\x.x x", "false -1 [] 4 1"},
        {"infer", "\\x.y", Bench.ILLEGAL_ARGUMENT + " 3 [] 0 0"},
        {"infer", "", Bench.ILLEGAL_ARGUMENT + " 0 [] 0 0"},
        {"infer", "(\\x.x:!a.a>a)", "true -1 [!>00] 0 0"},
        {"below", "!a.a>a<1>1", "true -1 [!>00] 1 1"},
        {"below", "1>!a.a<1", "false -1 [>1!0] 0 0"},
        {"below", "!a.a<a", Bench.ILLEGAL_ARGUMENT + " 5 [] 0 0"},
        {"below", "", Bench.ILLEGAL_ARGUMENT + " 0 [] 0 0"},
        {"below", "!a.a<1>!b.b", "false -1 [!0] 3 2"},
    };

    public static void main(String[] args) {
        usedUp();
        eachBehindEach();
        otherQuestion();
        firstOneIsPrinted();
        feedLeavesTheRest();
        CHECK.end();
    }

    // "The tape (used up, also when this throws)": the next bytes are the first ones again.
    private static void usedUp() {
        for (String[] text : TEXTS) {
            TypeBench bench = new TypeBench();
            CHECK.due(text[0] + " " + text[1], Bench.told(bench, text[0], text[1]), text[2]);
            CHECK.due("infer of nothing", Bench.told(bench, "infer", ""), Bench.ILLEGAL_ARGUMENT + " 0 [] 0 0");
            CHECK.due(text[0] + " " + text[1], Bench.told(bench, text[0], text[1]), text[2]);
            CHECK.due("below of nothing", Bench.told(bench, "below", ""), Bench.ILLEGAL_ARGUMENT + " 0 [] 0 0");
            CHECK.due(text[0] + " " + text[1], Bench.told(bench, text[0], text[1]), text[2]);
            CHECK.due("the next byte", Bench.feedAnswer(bench, '1', 1), "1");
            CHECK.due("the next term", Bench.told(bench, "infer", ""), "true -1 [1] 0 0");
        }
    }

    private static void eachBehindEach() {
        for (String[] first : TEXTS) {
            TypeBench bench = new TypeBench();
            for (String[] second : TEXTS) {
                CHECK.due(first[1], Bench.told(bench, first[0], first[1]), first[2]);
                CHECK.due(second[1] + " behind " + first[1], Bench.told(bench, second[0], second[1]), second[2]);
            }
        }
    }

    private static void otherQuestion() {
        TypeBench bench = new TypeBench();
        CHECK.due("a pair as a term", Bench.told(bench, "infer", "1<1"), Bench.ILLEGAL_ARGUMENT + " 1 [] 0 0");
        CHECK.due("a term as a pair", Bench.told(bench, "below", "\\x.x"), Bench.ILLEGAL_ARGUMENT + " 0 [] 0 0");
        CHECK.due("one type as a pair", Bench.told(bench, "below", "1"), Bench.ILLEGAL_ARGUMENT + " 1 [] 0 0");
    }

    // "the first one is printed (with ! as they are)": as it was read, below or not.
    private static void firstOneIsPrinted() {
        TypeBench bench = new TypeBench();
        CHECK.due("below", Bench.told(bench, "below", "!a.a<1>1"), "true -1 [!0] 1 1");
        CHECK.due("not below", Bench.told(bench, "below", "1>1<!a.a"), "false -1 [>11] 0 0");
        CHECK.due("! in front", Bench.told(bench, "below", "!a.!b.a>b<1>1"), "true -1 [!!>10] 2 2");
        CHECK.due("! inside", Bench.told(bench, "below", "1>!a.!b.b<1>1"), "true -1 [>1!!0] 2 1");
        CHECK.due("! without use", Bench.told(bench, "below", "!a.!b.1<1"), "true -1 [!!1] 2 0");
        CHECK.due("! in the second one", Bench.told(bench, "below", "1<!a.!b.1"), "true -1 [1] 0 0");
        CHECK.due("with brackets", Bench.told(bench, "below", "((1)>(1))<1"), "false -1 [>11] 0 0");
    }

    private static void feedLeavesTheRest() {
        for (String[] text : TEXTS) {
            TypeBench bench = new TypeBench();
            String told = Bench.told(bench, text[0], text[1]);
            String left = Bench.left(bench);
            bench.feed(')', 1);
            CHECK.due("after feed, behind " + text[1], Bench.left(bench), left);
            CHECK.due("a wrong feed", Bench.feedAnswer(bench, ')', 0), Bench.ILLEGAL_ARGUMENT);
            for (int i = 0; i < 7; i++) {
                Bench.feedAnswer(bench, 0x2929292929292929L, 8);
            }
            CHECK.due("one too many", Bench.feedAnswer(bench, ')', 4), Bench.ILLEGAL_STATE);
            CHECK.due("after refused feeds, behind " + text[1], Bench.left(bench), left);
            CHECK.due("out(size)", Bench.outAnswer(bench, bench.size()), Bench.OUT_OF_BOUNDS);
            CHECK.due("after a refused out, behind " + text[1], Bench.left(bench), left);
            CHECK.due("what was told of " + text[1], told, text[2]);
        }
    }
}
