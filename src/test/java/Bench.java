/** What the tests share: texts go to the tape, answers are compared, and what is not due is told. */
final class Bench {
    private int wrong = 0;

    void due(String call, long got, long want) {
        if (got != want) {
            tell(call, Long.toString(got), Long.toString(want));
        }
    }

    void due(String call, String got, String want) {
        if (!got.equals(want)) {
            tell(call, got, want);
        }
    }

    private void tell(String call, String got, String want) {
        wrong++;
        System.out.println(call + " answered " + got + ", due is " + want);
    }

    void end() {
        if (wrong > 0) {
            System.exit(1);
        }
    }

    /** Feeds a text in pieces of 8 bytes and a rest, with bits above the piece that must not count. */
    static void feed(TypeBench bench, String text) {
        for (int i = 0; i < text.length(); i += 8) {
            int n = Math.min(8, text.length() - i);
            long bytes = -1L;
            for (int j = 0; j < n; j++) {
                bytes = bytes << 8 | text.charAt(i + j);
            }
            bench.feed(bytes, n);
        }
    }

    static String feedAnswer(TypeBench bench, long bytes, int n) {
        try {
            return Integer.toString(bench.feed(bytes, n));
        } catch (IllegalArgumentException e) {
            return name(e);
        } catch (IllegalStateException e) {
            return name(e);
        }
    }

    static String ask(TypeBench bench, String call) {
        try {
            return Boolean.toString(call.equals("infer") ? bench.infer() : bench.below());
        } catch (IllegalArgumentException e) {
            return name(e);
        }
    }

    static String outAnswer(TypeBench bench, int i) {
        try {
            return Integer.toString(bench.out(i));
        } catch (IndexOutOfBoundsException e) {
            return name(e);
        }
    }

    // Only the very class that the document names is right, not one below it.
    private static String name(RuntimeException e) {
        return e.getClass().getSimpleName();
    }

    static String printed(TypeBench bench) {
        StringBuilder row = new StringBuilder();
        for (int i = 0; i < bench.size(); i++) {
            row.append((char) bench.out(i));
        }
        return row.toString();
    }

    /** All that can be seen after a text: answer, place, printed row, unknowns made and solved. */
    static String told(TypeBench bench, String call, String text) {
        feed(bench, text);
        String answer = ask(bench, call);
        return answer + " " + bench.place() + " [" + printed(bench) + "] " + bench.unknowns() + " " + bench.solved();
    }
}
