import java.nio.charset.StandardCharsets;

/** What the tests share: an object to run texts on, and the count of what went wrong. */
final class Desk {
    private static int wrong = 0;
    private static int done = 0;
    private static int sentences = 0;
    private static String sentence = "";
    final MatrixScripts scripts = new MatrixScripts();

    static void due(String what, Object got, Object want) {
        done++;
        if (!got.equals(want)) {
            wrong++;
            System.out.println((sentence.isEmpty() ? "" : "\"" + sentence + "\": ") + what + " answered " + got + ", due is " + want);
        }
    }

    /** What follows is the test of this sentence of the document. */
    static void sentence(String text) {
        sentences++;
        sentence = text;
    }

    /** Ends the test's main method. */
    static void close(String test) {
        String of = sentences == 0 ? "" : " of " + sentences + " sentences";
        System.out.println(test + ": " + done + " answers" + of + ", " + wrong + " wrong");
        if (wrong > 0 || done == 0) {
            System.exit(1);
        }
    }

    void feed(String text) {
        feed(text.getBytes(StandardCharsets.ISO_8859_1));
    }

    /** Twenty at once; those that are left over come first, so that a tape can be filled to the brim. */
    void feed(byte[] bytes) {
        int before = scripts.told(3);
        for (int to = bytes.length % 20 == 0 ? 20 : bytes.length % 20; to <= bytes.length; to += 20) {
            int from = Math.max(0, to - 20);
            int[] five = new int[5];
            for (int j = 0; from + j < to; j++) {
                five[j / 4] |= (bytes[from + j] & 255) << (24 - 8 * (j % 4));
            }
            scripts.feed(five[0], five[1], five[2], five[3], five[4]);
            if (to - from < 20) {
                scripts.end(before + to);
            }
        }
    }

    int run(String text) {
        feed(text);
        return scripts.run();
    }

    String page() {
        StringBuilder page = new StringBuilder();
        for (int i = 0; i < scripts.length(); i++) {
            page.append((char) scripts.shown(i));
        }
        return page.toString();
    }

    /** Runs the text on this object: its answer, its place, and what it put on the page, which is wiped. */
    String told(String text) {
        int answer = run(text);
        String page = page();
        scripts.wipe();
        return answer + " " + scripts.place() + " " + page.replace('\n', '|');
    }

    /** A new object is due to answer this to the text. */
    static void script(String text, int answer, int place, String page) {
        due(cut(text), new Desk().told(text), answer + " " + place + " " + page);
    }

    private static String cut(String text) {
        return text.length() > 200 ? text.substring(0, 100) + " .. " + text.substring(text.length() - 80) : text;
    }

    /** A new object with names from a run of their own, which is due to have no fault. */
    static Desk after(String before) {
        Desk desk = new Desk();
        int answer = desk.run(before);
        due("before: " + cut(before), answer >= 0, true);
        desk.scripts.wipe();
        return desk;
    }

    /** How many statements a text without comments and faults has. */
    private static int statements(String text) {
        int depth = 0;
        int count = 0;
        for (char c : text.toCharArray()) {
            depth += c == '(' || c == '[' ? 1 : c == ')' || c == ']' ? -1 : 0;
            count += c == ';' && depth == 0 ? 1 : 0;
        }
        return count;
    }

    /** Just within a bound: all statements of the text are due to be done. */
    void within(String text) {
        int answer = run(text);
        due(cut(text), answer + " at " + scripts.place(), statements(text) + " at -1");
    }

    /** Just beyond a bound: the text is due to have this fault at the word behind the mark @, which is not run. */
    void beyond(int fault, String marked) {
        int place = marked.indexOf('@');
        int answer = run(marked.substring(0, place) + marked.substring(place + 1));
        due(cut(marked), answer + " at " + scripts.place(), (fault - 100) + " at " + place);
    }

    /** All that can be seen of the object; the page is read whole. */
    String seen() {
        return scripts.told(0) + " " + scripts.told(1) + " " + scripts.told(2) + " " + scripts.told(3) + " "
                + scripts.place() + " " + scripts.length() + " " + page();
    }

    /** The text is due to be done without fault, with this page. */
    static void shows(String text, String page) {
        due(cut(text), new Desk().told(text), statements(text) + " -1 " + page);
    }

    /** The text is due to have this fault there. */
    static void fault(String text, int fault, int place) {
        Desk desk = new Desk();
        int answer = desk.run(text);
        due(cut(text), answer + " at " + desk.scripts.place(), (fault - 100) + " at " + place);
    }
}
