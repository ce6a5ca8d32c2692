import java.io.IOException;
import java.nio.charset.StandardCharsets;
import java.nio.file.Files;
import java.nio.file.Path;
import java.util.ArrayList;
import java.util.List;
import java.util.Random;

/**
 * Promises 3 to 9 on texts made by chance, with a second reading of the document beside the class.
 * The texts are the same in each run; two arguments, a number to start from and a count, give others.
 */
public final class ChanceTest {
    private static final Bench CHECK = new Bench();
    private static final String SIGNS = "1abxyz\\\\..!!(()))>>::<<  ";
    private static final int LONGEST = 60;
    private static final int LOOKED_AT = 100;

    private final Random chance;
    private final List<String> known = new ArrayList<>();
    private TypeBench bench = new TypeBench();
    private int calls = 0;
    private int compared = 0;
    private int held = 0;

    private ChanceTest(long start) throws IOException {
        chance = new Random(start);
        for (String file : new String[] {"edges.txt", "judgements.txt", "limits.txt"}) {
            for (String line : Files.readAllLines(Path.of("src/test/data", file), StandardCharsets.ISO_8859_1)) {
                if (!line.isEmpty() && !line.startsWith("#")) {
                    known.add(line.split("\t", -1)[1]);
                }
            }
        }
    }

    public static void main(String[] args) throws IOException {
        long start = args.length == 2 ? Long.parseLong(args[0]) : 1;
        int count = args.length == 2 ? Integer.parseInt(args[1]) : 20_000;
        ChanceTest test = new ChanceTest(start);
        for (int i = 0; i < count; i++) {
            String text = test.anyText();
            boolean pair = text.contains("<") ^ test.chance.nextInt(20) == 0;
            test.compare(pair ? "below" : "infer", text);
        }
        CHECK.due("nearly all texts were compared", Boolean.toString(test.compared > count * 0.99), "true");
        CHECK.due("a good part of the answers was true", Boolean.toString(test.held > count * 0.1), "true");
        CHECK.end();
    }

    private void compare(String call, String text) {
        String want;
        try {
            want = SecondReading.told(call, text);
        } catch (SecondReading.TooLarge e) {
            return;
        }
        compared++;
        held += want.startsWith("true") ? 1 : 0;
        int cost = 13 + Math.min(want.length(), LOOKED_AT);
        if (calls + cost > Bench.CALLS) {
            bench = new TypeBench();
            calls = 0;
        }
        calls += cost;
        CHECK.due(call + " " + text, told(call, text), shortened(want));
    }

    /** A long row is told by its beginning and its length. */
    private static String shortened(String told) {
        int opened = told.indexOf('[');
        int closed = told.lastIndexOf(']');
        String row = told.substring(opened + 1, closed);
        String seen = row.substring(0, Math.min(row.length(), LOOKED_AT));
        return told.substring(0, opened) + row.length() + " " + seen + told.substring(closed + 1);
    }

    private String told(String call, String text) {
        Bench.feed(bench, text);
        StringBuilder told = new StringBuilder(Bench.ask(bench, call));
        int size = bench.size();
        told.append(' ').append(bench.place()).append(' ').append(size).append(' ');
        for (int i = 0; i < Math.min(size, LOOKED_AT); i++) {
            told.append((char) bench.out(i));
        }
        return told.append(' ').append(bench.unknowns()).append(' ').append(bench.solved()).toString();
    }

    private String anyText() {
        String text = plainText();
        // Half of the texts stay as they are, so that not most of them are wrong.
        for (int changes = chance.nextInt(8) - 4; changes > 0; changes--) {
            text = changed(text);
        }
        return text.substring(0, Math.min(text.length(), LONGEST));
    }

    private String plainText() {
        for (int tries = 0; tries < 100; tries++) {
            int kind = chance.nextInt(8);
            int size = 1 + chance.nextInt(14);
            String text = kind == 0 ? type("", size) + "<" + type("", size)
                : kind < 5 ? term("", size, 8)
                : kind == 5 ? user(size)
                : known.get(chance.nextInt(known.size()));
            if (text.length() <= LONGEST) {
                return text;
            }
        }
        return "1";
    }

    /** A letter with an annotated type, used in a term: what is of higher rank stands in the middle. */
    private String user(int size) {
        String type = type("", 1 + chance.nextInt(6));
        return "(\\d." + term("d", size, 7) + ":(" + type + ")>" + type("", 2) + ")" + term("", 1 + chance.nextInt(4), 7);
    }

    private String type(String letters, int size) {
        if (size <= 1) {
            int i = chance.nextInt(letters.length() + 1);
            return i < letters.length() ? letters.substring(i, i + 1) : "1";
        }
        int left = 1 + chance.nextInt(size - 1);
        switch (chance.nextInt(5)) {
            case 0:
            case 1:
                char letter = "abc".charAt(chance.nextInt(3));
                return "!" + letter + "." + type(letters + letter, size - 1);
            case 2:
                return "(" + type(letters, left) + ")>" + type(letters, size - left);
            default:
                return type(letters, 1) + ">" + type(letters, size - 1);
        }
    }

    private String term(String letters, int size, int brackets) {
        if (size <= 1) {
            int i = chance.nextInt(letters.length() + 1);
            return i < letters.length() ? letters.substring(i, i + 1) : "1";
        }
        int left = 1 + chance.nextInt(size - 1);
        switch (chance.nextInt(6)) {
            case 0:
            case 1:
                char letter = "xyzab".charAt(chance.nextInt(5));
                return "\\" + letter + "." + term(letters + letter, size - 1, brackets);
            case 2:
                return brackets == 0 ? "1" : "(" + term(letters, left, brackets - 1) + ":" + type("", size - left) + ")";
            case 3:
                return brackets == 0 ? "1" : "(" + term(letters, left, brackets - 1) + ")" + term(letters, size - left, brackets);
            case 4:
                return brackets == 0 ? "1" : term(letters, 1, brackets) + "(" + term(letters, size - 1, brackets - 1) + ")";
            default:
                return term(letters, 1, brackets) + term(letters, size - 1, brackets);
        }
    }

    private String changed(String text) {
        int at = chance.nextInt(text.length() + 1);
        int end = Math.min(text.length(), at + chance.nextInt(2));
        char sign = chance.nextInt(50) == 0 ? (char) chance.nextInt(256) : SIGNS.charAt(chance.nextInt(SIGNS.length()));
        String other = chance.nextInt(8) == 0 ? plainText() : chance.nextInt(3) == 0 ? "" : String.valueOf(sign);
        return text.substring(0, at) + other + text.substring(end);
    }
}
