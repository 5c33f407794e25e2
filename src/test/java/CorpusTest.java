import java.nio.file.Files;
import java.nio.file.Path;

/**
 * Promises 4 to 10: scripts made at random, with the answers of another program that was written from
 * the document alone. Each line: answer, place, names, limbs; page; script. Run in the project's root.
 */
public final class CorpusTest {
    public static void main(String[] args) throws Exception {
        Desk used = new Desk();
        for (String line : Files.readAllLines(Path.of("src/test/data/scripts.txt"))) {
            String[] parts = line.split("\t", -1);
            run(new Desk(), parts);
            // what an object did before leaves nothing but names and a page
            run(used, parts);
            used.scripts.forget();
            used.scripts.wipe();
        }
        Desk.close("CorpusTest");
    }

    private static void run(Desk desk, String[] parts) {
        int answer = desk.run(parts[2]);
        MatrixScripts x = desk.scripts;
        Desk.due(parts[2], answer + " " + x.place() + " " + x.told(0) + " " + x.told(1), parts[0]);
        Desk.due(parts[2], desk.page().replace('\n', '|'), parts[1]);
    }
}
