import java.io.IOException;

/** Promises 3, 4, 6, 7, 8 and 9 on rows of texts: the edges of each sentence, and texts made by chance. */
public final class JudgementsTest {
    public static void main(String[] args) throws IOException {
        Bench check = new Bench();
        check.rows("edges.txt", 200);
        check.rows("judgements.txt", 200);
        check.end();
    }
}
