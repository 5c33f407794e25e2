/** Promises 1 to 10: each sentence about the face that names a boundary case, one by one. */
public final class EdgesOfFaceTest {
    private static final int BLANKS = 0x20202020;

    public static void main(String[] args) {
        newObject();
        newObjectsShareNothing();
        feedTakesTwentyBytes();
        feedIsFull();
        endKeeps();
        endRefuses();
        runWithoutWords();
        runTellsTheFault();
        runEmptiesTheTape();
        placeWithoutFault();
        placeOfTheLatestRun();
        placeAtTheEnd();
        lengthOfThePage();
        shownIsThere();
        wipeEmpties();
        forgetTakesAll();
        toldEach();
        toldAnother();
        toldAfterForget();
        toldAfterAFault();
        whatThrowsChangesNothing();
        Desk.close("EdgesOfFaceTest");
    }

    private static String feed(MatrixScripts x, int four) {
        try {
            return "" + x.feed(four, four, four, four, four);
        } catch (IllegalStateException refused) {
            return "refused";
        }
    }

    private static String end(MatrixScripts x, int n) {
        try {
            x.end(n);
            return "done";
        } catch (IllegalArgumentException refused) {
            return "refused";
        }
    }

    private static String shown(MatrixScripts x, int i) {
        try {
            return "" + x.shown(i);
        } catch (IndexOutOfBoundsException refused) {
            return "refused";
        }
    }

    private static void newObject() {
        Desk.sentence("An empty tape, no names, an empty page.");
        Desk.due("all that is seen", new Desk().seen(), "0 0 0 0 -1 0 ");
        Desk.due("NONE", MatrixScripts.NONE, -1);
        Desk.due("shown(0)", shown(new MatrixScripts(), 0), "refused");
        Desk.due("end(0)", end(new MatrixScripts(), 0), "done");
        Desk.due("end(1)", end(new MatrixScripts(), 1), "refused");
        Desk.due("first feed", feed(new MatrixScripts(), BLANKS), "20");
        Desk.due("run()", new MatrixScripts().run(), 0);
        Desk.due("wipe()", new MatrixScripts().wipe(), 0);
        Desk.due("forget()", new MatrixScripts().forget(), 0);
        new Desk().beyond(3, "show @a;");
    }

    private static void newObjectsShareNothing() {
        Desk.sentence("All memory is the class's own.");
        Desk one = new Desk();
        one.run("a=1;show a;show nix;");
        one.feed("show 2;");
        Desk other = new Desk();
        Desk.due("the other", other.seen(), "0 0 0 0 -1 0 ");
        other.run("b=[1,2];show b;");
        other.scripts.forget();
        Desk.due("the one", one.seen(), "1 2 2 7 16 4 [1]\n");
        Desk.due("the one's script", one.scripts.run(), 1);
    }

    private static void feedTakesTwentyBytes() {
        Desk.sentence("Twenty bytes more on the tape, those of a first, the highest byte of each first: how many it has.");
        MatrixScripts x = new MatrixScripts();
        // show 1234567890+5;#A and, behind it, B\nshow 6;#..
        Desk.due("feed", x.feed(0x73686f77, 0x20313233, 0x34353637, 0x3839302b, 0x353b2341), 20);
        Desk.due("feed", x.feed(0x420a7368, 0x6f772036, 0x3b23ffff, -1, Integer.MIN_VALUE), 40);
        Desk.due("told(3)", x.told(3), 40);
        Desk.due("run()", x.run(), 2);
        Desk.due("length()", x.length(), 13 + 4);
        Desk.due("first digit", x.shown(1), (int) '1');
        Desk.due("last digits", x.shown(9) + " " + x.shown(10), (int) '9' + " " + (int) '5');
        Desk.due("behind", x.shown(14), (int) '6');
        // which byte of the twenty is wrong shows in which order they lie
        for (int wrong = 0; wrong < 20; wrong++) {
            int[] five = {BLANKS, BLANKS, BLANKS, BLANKS, BLANKS};
            five[wrong / 4] |= 0xff << (24 - 8 * (wrong % 4));
            x.feed(five[0], five[1], five[2], five[3], five[4]);
            Desk.due("byte " + wrong, x.run() + " " + x.place(), "-99 " + wrong);
        }
    }

    private static void feedIsFull() {
        Desk.sentence("IllegalStateException: there would be more than 65536.");
        MatrixScripts x = new MatrixScripts();
        for (int i = 1; i <= 3276; i++) {
            feed(x, BLANKS);
        }
        Desk.due("bytes", x.told(3), 65520);
        Desk.due("20 more than 65520", feed(x, BLANKS), "refused");
        Desk.due("bytes", x.told(3), 65520);
        Desk.due("end(65517)", end(x, 65517), "done");
        Desk.due("20 more than 65517", feed(x, BLANKS), "refused");
        Desk.due("end(65516)", end(x, 65516), "done");
        Desk.due("20 more than 65516", feed(x, BLANKS), "65536");
        Desk.due("20 more than 65536", feed(x, BLANKS), "refused");
        Desk.due("bytes", x.told(3), 65536);
        Desk.due("end(65536)", end(x, 65536), "done");
        Desk.due("end(65537)", end(x, 65537), "refused");
        Desk.due("a full tape is run", x.run(), 0);
        Desk.due("feed after it", feed(x, BLANKS), "20");
        Desk desk = new Desk();
        desk.feed(" ".repeat(65520) + "show 12345678;  ");
        Desk.due("a full tape's last words", desk.scripts.run() + " " + desk.page(), "1 [12345678]\n");
        desk.feed(" ".repeat(65535) + "$");
        Desk.due("a full tape's last byte", desk.scripts.run() + " " + desk.scripts.place(), "-99 65535");
        desk.feed(" ".repeat(65530) + "show 1");
        Desk.due("a full tape's end", desk.scripts.run() + " " + desk.scripts.place(), "-98 65536");
    }

    private static void endKeeps() {
        Desk.sentence("The tape keeps its first n bytes.");
        Desk desk = new Desk();
        desk.feed("show 12;show 34;$$$$");
        Desk.due("all", end(desk.scripts, 20), "done");
        Desk.due("bytes", desk.scripts.told(3), 20);
        Desk.due("but four", end(desk.scripts, 16), "done");
        Desk.due("bytes", desk.scripts.told(3), 16);
        Desk.due("two statements", desk.told("") , "2 -1 [12]|[34]|");
        desk.feed("show 12;show 34;");
        desk.scripts.end(8);
        desk.feed("show 5;");
        Desk.due("what comes behind", desk.told(""), "2 -1 [12]|[5]|");
        for (int cut = 1; cut <= 20; cut++) {
            desk.feed(" ".repeat(cut - 1) + "$" + "!".repeat(20 - cut));
            desk.scripts.end(cut);
            Desk.due("cut behind " + cut, desk.scripts.run() + " " + desk.scripts.place(), "-99 " + (cut - 1));
            desk.feed(" ".repeat(cut) + "$".repeat(20 - cut));
            desk.scripts.end(cut);
            Desk.due("cut at " + cut, desk.scripts.run() + " " + desk.scripts.place(), "0 -1");
        }
        desk.feed("show 1;");
        Desk.due("none", end(desk.scripts, 0), "done");
        Desk.due("run()", desk.scripts.run() + " " + desk.scripts.length(), "0 0");
    }

    private static void endRefuses() {
        Desk.sentence("IllegalArgumentException: it has not so many, or n is below 0.");
        MatrixScripts x = new MatrixScripts();
        Desk.due("end(0) of none", end(x, 0), "done");
        Desk.due("end(1) of none", end(x, 1), "refused");
        Desk.due("end(-1) of none", end(x, -1), "refused");
        feed(x, BLANKS);
        Desk.due("end(21) of 20", end(x, 21), "refused");
        Desk.due("end(-1) of 20", end(x, -1), "refused");
        Desk.due("end(max) of 20", end(x, Integer.MAX_VALUE), "refused");
        Desk.due("end(min) of 20", end(x, Integer.MIN_VALUE), "refused");
        Desk.due("bytes", x.told(3), 20);
        Desk.due("end(20) of 20", end(x, 20), "done");
        Desk.due("end(19) of 20", end(x, 19), "done");
        Desk.due("end(20) of 19", end(x, 20), "refused");
        Desk.due("end(0) of 19", end(x, 0), "done");
        feed(x, BLANKS);
        x.run();
        Desk.due("end(1) after run()", end(x, 1), "refused");
        Desk.due("end(0) after run()", end(x, 0), "done");
    }

    private static void runWithoutWords() {
        Desk.sentence("Does the tape's script (one without words, too: 0)");
        for (String text : new String[] {"", " ", "\t\n\r ", "#", "# show 1;", "#\n", " # a\n\t# b", "\n#$%&!\377\000"}) {
            Desk desk = new Desk();
            desk.run("show 1/0;");
            Desk.due("without words", desk.told(text), "0 -1 ");
            Desk.due("statements", desk.scripts.told(2) + " " + desk.scripts.told(3), "0 0");
        }
        new Desk().within("a=1;");
        Desk.due("one statement", new Desk().run("a=1;"), 1);
        Desk.due("two of them", new Desk().run("a=1;check a=1;"), 2);
    }

    private static void runTellsTheFault() {
        Desk.sentence("the fault's number less 100, when there is one");
        String[] texts = {"$", ";", "show a;", "det=1;", "show [1,2]+1;", "show id(;0);", "show 1/0;", "show id(;33);", "check 1=2;"};
        for (int fault = 1; fault <= 9; fault++) {
            Desk.due(texts[fault - 1], new Desk().run(texts[fault - 1]), fault - 100);
            Desk.due("behind others: " + texts[fault - 1], new Desk().run("x=1;x=2;x=3;" + texts[fault - 1]), fault - 100);
        }
    }

    private static void runEmptiesTheTape() {
        Desk.sentence("the tape is empty then");
        for (String text : new String[] {"show 1;", "#", "$", "show", "show a;", "show 1;show 1/0;show 2;", "check 1=2;"}) {
            Desk desk = new Desk();
            desk.run(text);
            Desk.due("bytes after " + text, desk.scripts.told(3), 0);
            Desk.due("run() again", desk.scripts.run() + " " + desk.scripts.place(), "0 -1");
        }
    }

    private static void placeWithoutFault() {
        Desk.sentence("NONE when it had none, or there was none.");
        Desk desk = new Desk();
        Desk.due("there was no run()", desk.scripts.place(), -1);
        desk.feed("show 1/0;");
        Desk.due("there was no run(), with a tape", desk.scripts.place(), -1);
        desk.scripts.end(0);
        desk.run("show 1;");
        Desk.due("it had no fault", desk.scripts.place(), -1);
        desk.run("$");
        Desk.due("fault at the first byte", desk.scripts.place(), 0);
        desk.run("");
        Desk.due("a run without words", desk.scripts.place(), -1);
    }

    private static void placeOfTheLatestRun() {
        Desk.sentence("The place of the fault of the latest run()");
        Desk desk = new Desk();
        desk.run("a=1;show a/0;");
        Desk.due("place", desk.scripts.place(), 10);
        desk.feed("show 22222/0;");
        desk.scripts.end(5);
        desk.scripts.wipe();
        desk.scripts.forget();
        desk.scripts.told(2);
        Desk.due("other calls leave it", desk.scripts.place(), 10);
        end(desk.scripts, -1);
        shown(desk.scripts, -1);
        Desk.due("refused calls leave it", desk.scripts.place(), 10);
        desk.scripts.end(0);
        desk.run("show 1+a;");
        Desk.due("the next one's", desk.scripts.place(), 7);
    }

    private static void placeAtTheEnd() {
        Desk.sentence("at the tape's end (the number of its bytes, also behind blanks and a comment) when that can't come there");
        Desk desk = new Desk();
        for (String text : new String[] {"show 1", "show 1 ", "show 1\n\r\t ", "show 1#", "show 1 # ;\n", "show 1 # ;\n # ;", "a", "a=", "check 1=1",
            "show (", "show [1,2;", "show id(;1", "show 2^", "show 2^-", "show -", "show a+", "show a*", "show (a"}) {
            desk.beyond(2, text + "@");
        }
        desk.within("a=1;#");
        desk.within("a=1;");
    }

    private static void lengthOfThePage() {
        Desk.sentence("How many bytes the page has.");
        Desk desk = new Desk();
        Desk.due("an empty one", desk.scripts.length(), 0);
        desk.run("a=[1,2];check a=a;");
        Desk.due("nothing was shown", desk.scripts.length(), 0);
        desk.run("show 7;");
        Desk.due("one cell", desk.scripts.length(), 4);
        desk.run("show 7;show 1/0;show 7;");
        Desk.due("ahead of a fault", desk.scripts.length(), 8);
        desk.run("show 7;show;");
        Desk.due("with no statement done", desk.scripts.length(), 8);
        fill(desk);
        Desk.due("a full one", desk.scripts.length(), 200000);
        desk.scripts.wipe();
        Desk.due("an empty one again", desk.scripts.length(), 0);
    }

    /** Shows 600 digits as long as they fit, and then what is left. */
    private static void fill(Desk desk) {
        int left = 200000 - desk.scripts.length();
        StringBuilder text = new StringBuilder("n=" + "8".repeat(600) + ";");
        for (; left >= 603 + 4; left -= 603) {
            text.append("show n;");
        }
        text.append("show ").append("9".repeat(Math.min(left - 3, 600))).append(";");
        left -= Math.min(left, 603);
        Desk.due("left", left, 0);
        desk.within(text.toString());
    }

    private static void shownIsThere() {
        Desk.sentence("Byte i of the page. IndexOutOfBoundsException: there is none.");
        Desk desk = new Desk();
        MatrixScripts x = desk.scripts;
        Desk.due("on an empty page", shown(x, -1) + " " + shown(x, 0) + " " + shown(x, 1), "refused refused refused");
        desk.run("show [-12,3/4;5,6];");
        Desk.due("page", desk.page(), "[-12, 3/4; 5, 6]\n");
        Desk.due("the first", shown(x, 0), "91");
        Desk.due("the last", shown(x, 16), "10");
        Desk.due("at the page's end", shown(x, 17), "refused");
        Desk.due("below 0", shown(x, -1), "refused");
        Desk.due("far off", shown(x, Integer.MAX_VALUE) + " " + shown(x, Integer.MIN_VALUE), "refused refused");
        x.wipe();
        Desk.due("wiped", shown(x, 0) + " " + shown(x, 16), "refused refused");
        desk.run("show 8;");
        Desk.due("behind a shorter page", shown(x, 3) + " " + shown(x, 4), "10 refused");
        fill(desk);
        Desk.due("the last of a full page", shown(x, 199998) + " " + shown(x, 199999), "93 10");
        Desk.due("behind a full page", shown(x, 200000), "refused");
    }

    private static void wipeEmpties() {
        Desk.sentence("The page is empty: how many bytes it had.");
        Desk desk = new Desk();
        Desk.due("an empty page", desk.scripts.wipe(), 0);
        Desk.due("an empty page again", desk.scripts.wipe() + " " + desk.scripts.length(), "0 0");
        desk.run("a=5;show a;show 1/0;");
        desk.feed("show a;");
        Desk.due("four bytes", desk.scripts.wipe(), 4);
        Desk.due("none are left", desk.scripts.wipe(), 0);
        Desk.due("all else stays", desk.seen(), "1 2 2 7 17 0 ");
        desk.scripts.run();
        Desk.due("a page from its beginning", desk.page(), "[5]\n");
        fill(desk);
        Desk.due("a full page", desk.scripts.wipe(), 200000);
        Desk.due("none are left", desk.scripts.length() + " " + desk.scripts.wipe(), "0 0");
        desk.within("show a;");
    }

    private static void forgetTakesAll() {
        Desk.sentence("All names lose their values: how many there were.");
        Desk desk = new Desk();
        Desk.due("no names", desk.scripts.forget(), 0);
        desk.run("a=1;a=2;show a;show 1/0;");
        desk.feed("show a;");
        Desk.due("one", desk.scripts.forget(), 1);
        Desk.due("no names", desk.scripts.forget(), 0);
        Desk.due("all else stays", desk.seen(), "0 0 3 7 21 4 [2]\n");
        Desk.due("it has no value", desk.scripts.run() + " " + desk.scripts.place(), "-97 5");
        StringBuilder text = new StringBuilder();
        for (int i = 0; i < 200; i++) {
            text.append("n").append(i).append("=").append(i).append(";");
        }
        desk.within(text.toString());
        Desk.due("all 200", desk.scripts.forget(), 200);
        desk.beyond(3, "show @n0;");
        desk.beyond(3, "show @n199;");
        desk.within(text.toString());
        desk.beyond(8, "@a=1;");
        Desk.due("all 200 again", desk.scripts.forget() + " " + desk.scripts.forget(), "200 0");
    }

    private static void toldEach() {
        Desk.sentence("What = 0: how many names have values, 1 their limbs, 2 how many statements were done in all, 3 bytes of the tape");
        Desk desk = new Desk();
        MatrixScripts x = desk.scripts;
        Desk.due("at first", x.told(0) + " " + x.told(1) + " " + x.told(2) + " " + x.told(3), "0 0 0 0");
        desk.run("a=0;");
        Desk.due("0: COMMON has one limb, the cell none", x.told(0) + " " + x.told(1) + " " + x.told(2), "1 1 1");
        desk.run("a=2^32-1;");
        Desk.due("32 bits are one limb", x.told(0) + " " + x.told(1) + " " + x.told(2), "1 2 2");
        desk.run("a=2^32;");
        Desk.due("33 bits are two", x.told(0) + " " + x.told(1) + " " + x.told(2), "1 3 3");
        desk.run("a=-2^32;");
        Desk.due("the size alone is of matter", x.told(1), 3);
        desk.run("a=1/2^31;");
        Desk.due("COMMON of 32 bits", x.told(1), 2);
        desk.run("a=1/2^32;");
        Desk.due("COMMON of 33 bits", x.told(1), 3);
        desk.run("b=[1/2,1/3;1/2^31,0];show b;check b=b;");
        Desk.due("COMMON of 33 bits, cells of 32, 32, 2 and no bits", x.told(0) + " " + x.told(1) + " " + x.told(2), "2 8 9");
        desk.feed("#");
        Desk.due("bytes", x.told(3), 1);
    }

    private static void toldAnother() {
        Desk.sentence("NONE for another what.");
        Desk desk = new Desk();
        desk.run("a=1;b=2;c=3;");
        MatrixScripts x = desk.scripts;
        Desk.due("3 and 4", x.told(3) + " " + x.told(4), "0 -1");
        Desk.due("0 and -1", x.told(0) + " " + x.told(-1), "3 -1");
        Desk.due("far off", x.told(5) + " " + x.told(256) + " " + x.told(Integer.MAX_VALUE) + " " + x.told(Integer.MIN_VALUE), "-1 -1 -1 -1");
    }

    private static void toldAfterForget() {
        Desk.sentence("(by all runs, also ahead of a fault; forget() leaves that)");
        Desk desk = new Desk();
        desk.run("a=1;b=2^40;");
        desk.run("show a;");
        desk.feed("x=1;");
        desk.scripts.forget();
        Desk.due("names and limbs are none", desk.seen(), "0 0 3 4 -1 4 [1]\n");
        desk.scripts.run();
        Desk.due("one name more", desk.seen(), "1 2 4 0 -1 4 [1]\n");
    }

    private static void toldAfterAFault() {
        Desk.sentence("A statement with a fault does nothing; those before it stay done.");
        Desk desk = new Desk();
        desk.run("a=1;show a;b=2;a=7/0;c=3;");
        Desk.due("three ahead of a fault", desk.seen(), "2 4 3 0 18 4 [1]\n");
        desk.run("c=3;show c;$");
        Desk.due("none with no word", desk.seen(), "2 4 3 0 11 4 [1]\n");
        desk.run("c=3;show c;d=");
        Desk.due("none with a word that can't come", desk.seen(), "2 4 3 0 13 4 [1]\n");
        desk.run("check a=b;");
        Desk.due("none with a check that fails", desk.seen(), "2 4 3 0 0 4 [1]\n");
        desk.run("a=5;a=6;a=[a,nix];");
        Desk.due("two more", desk.told("show a;"), "1 -1 [1]|[6]|");
        Desk.due("in all", desk.scripts.told(2), 6);
    }

    private static void whatThrowsChangesNothing() {
        Desk.sentence("What throws changes nothing.");
        Desk desk = new Desk();
        desk.run("a=[1/2,3];show a;show nix;");
        desk.feed("show a*2;");
        String before = desk.seen();
        Desk.due("all there is", before, "1 3 2 9 22 9 [1/2, 3]\n");
        for (int n : new int[] {-1, 10, 11, 65536, 65537, Integer.MAX_VALUE, Integer.MIN_VALUE}) {
            Desk.due("end(" + n + ")", end(desk.scripts, n), "refused");
            Desk.due("after end(" + n + ")", desk.seen(), before);
        }
        for (int i : new int[] {-1, 9, 10, 199999, 200000, Integer.MAX_VALUE, Integer.MIN_VALUE}) {
            Desk.due("shown(" + i + ")", shown(desk.scripts, i), "refused");
            Desk.due("after shown(" + i + ")", desk.seen(), before);
        }
        Desk.due("the script is as it was", desk.told(""), "1 -1 [1/2, 3]|[1, 6]|");
        desk.run("show nix;");
        desk.feed("show a*4; " + " ".repeat(65507));
        before = desk.seen();
        Desk.due("all there is", before, "1 3 3 65517 5 0 ");
        Desk.due("feed", feed(desk.scripts, 0x24242424), "refused");
        Desk.due("feed again", feed(desk.scripts, 0x24242424), "refused");
        Desk.due("after feed", desk.seen(), before);
        Desk.due("the script is as it was", desk.told(""), "1 -1 [2, 12]|");
    }
}
