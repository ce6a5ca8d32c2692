import java.io.IOException;
import java.nio.charset.StandardCharsets;
import java.nio.file.Files;
import java.nio.file.Path;

/**
 * Promises 3, 4, 6, 7, 8 and 9 on the rows of src/test/data/judgements.txt, on one object in turn and
 * on a fresh object for each row: no text may leave a trace for the next one.
 */
public final class JudgementsTest {
    public static void main(String[] args) throws IOException {
        Bench check = new Bench();
        TypeBench used = new TypeBench();
        int rows = 0;
        for (String line : Files.readAllLines(Path.of("src/test/data/judgements.txt"), StandardCharsets.ISO_8859_1)) {
            if (line.isEmpty() || line.startsWith("#")) {
                continue;
            }
            String[] parts = line.split("\t", -1);
            String want = parts[2] + " -1 [" + parts[5] + "] " + parts[3] + " " + parts[4];
            check.due(parts[0] + " " + parts[1], Bench.told(new TypeBench(), parts[0], parts[1]), want);
            check.due(parts[0] + " " + parts[1] + " (used)", Bench.told(used, parts[0], parts[1]), want);
            rows++;
        }
        check.due("are there rows", Boolean.toString(rows > 100), "true");
        check.end();
    }
}
