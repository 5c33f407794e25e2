import java.nio.ByteBuffer;
import java.nio.charset.StandardCharsets;
import java.nio.file.Files;
import java.nio.file.Path;

/** README.md tells nothing that does not hold. Run in the project's root. */
public final class ReadmeTest {
    private static final String CALLED = "det trace rank rows columns echelon kernel inverse solve mod hermite smith"
            + " charpoly minpoly frobenius lll swaps id zero part";

    public static void main(String[] args) throws Exception {
        String readme = Files.readString(Path.of("README.md"));
        firstExample(readme);
        helpersAreThese(readme);
        scriptAndPage(block(readme, "script"), block(readme, "page"));
        everyTestIsTold(readme);
        Desk.close("ReadmeTest");
    }

    private static String block(String readme, String kind) {
        String fence = "```" + kind + "\n";
        int from = readme.indexOf(fence) + fence.length();
        return readme.substring(from, readme.indexOf("```", from));
    }

    private static void firstExample(String readme) {
        String line = "m.feed(0x73686f77, 0x20646574, 0x285b312c, 0x323b332c, 0x345d293b);   // \"show det([1,2;3,4]);\"";
        Desk.due("the line that is run here", readme.contains(line), true);
        MatrixScripts m = new MatrixScripts();
        Desk.due("feed", m.feed(0x73686f77, 0x20646574, 0x285b312c, 0x323b332c, 0x345d293b), 20);
        Desk.due("run", m.run(), 1);
        Desk.due("length", m.length(), 5);
        Desk.due("shown", m.shown(1), 45);
    }

    /** The methods that the text shows are those that run its script here. */
    private static void helpersAreThese(String readme) throws Exception {
        String here = Files.readString(Path.of("src/test/java/ReadmeTest.java"));
        int from = readme.indexOf("static int run(");
        for (String line : readme.substring(from, readme.indexOf("```", from)).split("\n")) {
            Desk.due(line, here.contains(line.trim()), true);
        }
    }

    private static void scriptAndPage(String script, String page) {
        MatrixScripts m = new MatrixScripts();
        Desk.due("run", run(m, script) > 0, true);
        Desk.due("place", m.place(), MatrixScripts.NONE);
        Desk.due("page", page(m), page);
        for (String name : CALLED.split(" ")) {
            Desk.due(name + " is shown", script.contains(name + "("), true);
        }
    }

    private static int run(MatrixScripts m, String script) {
        ByteBuffer bytes = ByteBuffer.allocate((script.length() + 19) / 20 * 20);
        bytes.put(script.getBytes(StandardCharsets.ISO_8859_1)).rewind();
        while (bytes.hasRemaining()) {
            m.feed(bytes.getInt(), bytes.getInt(), bytes.getInt(), bytes.getInt(), bytes.getInt());
        }
        m.end(script.length());     // without what filled the last twenty
        return m.run();
    }

    private static String page(MatrixScripts m) {
        StringBuilder page = new StringBuilder();
        for (int i = 0; i < m.length(); i++) {
            page.append((char) m.shown(i));
        }
        return page.toString();
    }

    private static void everyTestIsTold(String readme) throws Exception {
        try (var tests = Files.list(Path.of("src/test/java"))) {
            for (Path test : tests.toList()) {
                String name = test.getFileName().toString().replace(".java", "");
                Desk.due(name + " has a row", !name.endsWith("Test") || readme.contains("| " + name + " |"), true);
            }
        }
    }
}
