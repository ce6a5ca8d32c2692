import java.io.IOException;
import java.nio.charset.StandardCharsets;
import java.nio.file.Files;
import java.nio.file.Path;

/**
 * What the tests share: texts go to the tape, answers are compared, and what is not due is told.
 * Nothing is promised of an object after its 512th call, so no test makes more of them on one object.
 */
final class Bench {
    static final int CALLS = 512;
    static final String ILLEGAL_ARGUMENT = "IllegalArgumentException";
    static final String ILLEGAL_STATE = "IllegalStateException";
    static final String OUT_OF_BOUNDS = "IndexOutOfBoundsException";

    private int wrong = 0;

    void due(String call, long got, long want) {
        due(call, Long.toString(got), Long.toString(want));
    }

    void due(String call, String got, String want) {
        if (!got.equals(want)) {
            wrong++;
            System.out.println(call + " answered " + got + ", due is " + want);
        }
    }

    void end() {
        if (wrong > 0) {
            System.exit(1);
        }
    }

    /** Feeds a text in pieces of 8 bytes and a rest, with bits above the piece that must not count. */
    static void feed(TypeBench bench, String text) {
        for (int i = 0; i < text.length(); i += 8) {
            int n = Math.min(8, text.length() - i);
            long bytes = -1L;
            for (int j = 0; j < n; j++) {
                bytes = bytes << 8 | text.charAt(i + j);
            }
            bench.feed(bytes, n);
        }
    }

    // RuntimeException is caught so that a wrong one is told by its name, and the test goes on.
    static String feedAnswer(TypeBench bench, long bytes, int n) {
        try {
            return Integer.toString(bench.feed(bytes, n));
        } catch (RuntimeException e) {
            return name(e);
        }
    }

    static String ask(TypeBench bench, String call) {
        try {
            return Boolean.toString(call.equals("infer") ? bench.infer() : bench.below());
        } catch (RuntimeException e) {
            return name(e);
        }
    }

    static String outAnswer(TypeBench bench, int i) {
        try {
            return Integer.toString(bench.out(i));
        } catch (RuntimeException e) {
            return name(e);
        }
    }

    // Only the very class that the document names is right, not one below it.
    private static String name(RuntimeException e) {
        return e.getClass().getSimpleName();
    }

    static String printed(TypeBench bench) {
        StringBuilder row = new StringBuilder();
        int size = bench.size();
        for (int i = 0; i < size; i++) {
            row.append((char) bench.out(i));
        }
        return row.toString();
    }

    /** The printed row of a text, however long: a new object reads the text again for every 400 bytes. */
    static String longRow(String call, String text) {
        StringBuilder row = new StringBuilder();
        TypeBench bench = asked(call, text);
        int size = bench.size();
        for (int i = 0; i < size; i++) {
            if (i % 400 == 399) {
                bench = asked(call, text);
            }
            row.append((char) bench.out(i));
        }
        return row.toString();
    }

    static TypeBench asked(String call, String text) {
        TypeBench bench = new TypeBench();
        feed(bench, text);
        ask(bench, call);
        return bench;
    }

    /** All that can be seen after a text: place, printed row, unknowns made and solved. */
    static String left(TypeBench bench) {
        return bench.place() + " [" + printed(bench) + "] " + bench.unknowns() + " " + bench.solved();
    }

    /** The answer to a text, and all that can be seen after it. */
    static String told(TypeBench bench, String call, String text) {
        feed(bench, text);
        return ask(bench, call) + " " + left(bench);
    }

    /** The rows of a file, each on a fresh object and on one that several rows share: no text leaves a trace. */
    void rows(String file, int least) throws IOException {
        TypeBench used = new TypeBench();
        int calls = 0;
        int rows = 0;
        for (String line : Files.readAllLines(Path.of("src/test/data", file), StandardCharsets.ISO_8859_1)) {
            if (line.isEmpty() || line.startsWith("#")) {
                continue;
            }
            rows++;
            String[] parts = line.split("\t", -1);
            int cost = 13 + parts[5].length();
            if (cost > CALLS) {
                longRowDue(parts);
                continue;
            }
            if (calls + cost > CALLS) {
                used = new TypeBench();
                calls = 0;
            }
            calls += cost;
            String want = parts[2] + " -1 [" + parts[5] + "] " + parts[3] + " " + parts[4];
            due(parts[0] + " " + parts[1], told(new TypeBench(), parts[0], parts[1]), want);
            due(parts[0] + " " + parts[1] + " (used)", told(used, parts[0], parts[1]), want);
        }
        due("are there rows in " + file, Boolean.toString(rows >= least), "true");
    }

    private void longRowDue(String[] parts) {
        TypeBench bench = new TypeBench();
        feed(bench, parts[1]);
        String got = ask(bench, parts[0]) + " " + bench.place() + " " + bench.unknowns() + " " + bench.solved();
        due(parts[0] + " " + parts[1], got, parts[2] + " -1 " + parts[3] + " " + parts[4]);
        due(parts[0] + " " + parts[1], longRow(parts[0], parts[1]), parts[5]);
    }
}
