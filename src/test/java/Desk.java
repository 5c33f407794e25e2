import java.nio.charset.StandardCharsets;

/** What the tests share: an object to run texts on, and the count of what went wrong. */
final class Desk {
    private static int wrong = 0;
    private static int done = 0;
    final MatrixScripts scripts = new MatrixScripts();

    static void due(String what, Object got, Object want) {
        done++;
        if (!got.equals(want)) {
            wrong++;
            System.out.println(what + " answered " + got + ", due is " + want);
        }
    }

    /** Ends the test's main method. */
    static void close(String test) {
        System.out.println(test + ": " + done + " answers, " + wrong + " wrong");
        if (wrong > 0 || done == 0) {
            System.exit(1);
        }
    }

    void feed(String text) {
        feed(text.getBytes(StandardCharsets.ISO_8859_1));
    }

    /** Twenty at once; those that are left over come first, so that a tape can be filled to the brim. */
    void feed(byte[] bytes) {
        int before = scripts.told(3);
        for (int to = bytes.length % 20 == 0 ? 20 : bytes.length % 20; to <= bytes.length; to += 20) {
            int from = Math.max(0, to - 20);
            int[] five = new int[5];
            for (int j = 0; from + j < to; j++) {
                five[j / 4] |= (bytes[from + j] & 255) << (24 - 8 * (j % 4));
            }
            scripts.feed(five[0], five[1], five[2], five[3], five[4]);
            scripts.end(before + to);
        }
    }

    int run(String text) {
        feed(text);
        return scripts.run();
    }

    String page() {
        StringBuilder page = new StringBuilder();
        for (int i = 0; i < scripts.length(); i++) {
            page.append((char) scripts.shown(i));
        }
        return page.toString();
    }

    /** Runs the text on this object: its answer, its place, and what it put on the page, which is wiped. */
    String told(String text) {
        int answer = run(text);
        String page = page();
        scripts.wipe();
        return answer + " " + scripts.place() + " " + page.replace('\n', '|');
    }

    /** A new object is due to answer this to the text. */
    static void script(String text, int answer, int place, String page) {
        String shown = text.length() > 200 ? text.substring(0, 200) + ".." : text;
        due(shown, new Desk().told(text), answer + " " + place + " " + page);
    }

    /** The text is due to be done without fault, with this page. */
    static void shows(String text, String page) {
        String got = new Desk().told(text);
        due(text.length() > 200 ? text.substring(0, 200) + ".." : text, got.substring(got.indexOf(' ', got.indexOf(' ') + 1) + 1), page);
    }

    /** The text is due to have this fault there. */
    static void fault(String text, int fault, int place) {
        Desk desk = new Desk();
        int answer = desk.run(text);
        due(text.length() > 200 ? text.substring(0, 200) + ".." : text, answer + " at " + desk.scripts.place(), (fault - 100) + " at " + place);
    }
}
