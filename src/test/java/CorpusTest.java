import java.nio.file.Files;
import java.nio.file.Path;

/**
 * Promises 4 to 10: scripts made at random, with the answers of another program that was written from
 * the document alone. Each line: answer, place, names, limbs; page; script. Run in the project's root.
 */
public final class CorpusTest {
    public static void main(String[] args) throws Exception {
        for (String line : Files.readAllLines(Path.of("src/test/data/scripts.txt"))) {
            String[] parts = line.split("\t", -1);
            Desk desk = new Desk();
            int answer = desk.run(parts[2]);
            MatrixScripts x = desk.scripts;
            Desk.due(parts[2], answer + " " + x.place() + " " + x.told(0) + " " + x.told(1), parts[0]);
            Desk.due(parts[2], desk.page().replace('\n', '|'), parts[1]);
        }
        Desk.close("CorpusTest");
    }
}
