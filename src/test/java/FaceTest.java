/** Promises 1 to 3 and 5 to 10: the face, beside what scripts do. */
public final class FaceTest {
    public static void main(String[] args) {
        newObject();
        feedPutsBytes();
        feedThrowsWhenFull();
        endCutsTheTape();
        endThrows();
        runTellsStatementsOrFault();
        placeIsThatOfTheLatestRun();
        pageIsKeptAndShown();
        wipeEmptiesThePage();
        forgetTakesTheNames();
        toldTells();
        Desk.close("FaceTest");
    }

    private static void newObject() {
        MatrixScripts x = new MatrixScripts();
        Desk.due("NONE", MatrixScripts.NONE, -1);
        Desk.due("new place", x.place(), -1);
        Desk.due("new length", x.length(), 0);
        Desk.due("new told", x.told(0) + " " + x.told(1) + " " + x.told(2) + " " + x.told(3), "0 0 0 0");
        Desk.due("new wipe", x.wipe(), 0);
        Desk.due("new forget", x.forget(), 0);
        Desk.due("new run", x.run(), 0);
        Desk.due("new run's place", x.place(), -1);
    }

    private static void feedPutsBytes() {
        MatrixScripts x = new MatrixScripts();
        // "show 1;show 2;show 3"
        Desk.due("feed", x.feed(0x73686f77, 0x20313b73, 0x686f7720, 0x323b7368, 0x6f772033), 20);
        Desk.due("feed again", x.feed(0x3b202020, 0x20202020, 0x20202020, 0x20202020, 0x20202020), 40);
        Desk.due("run", x.run(), 3);
        Desk.due("shown", x.shown(0) + " " + x.shown(1) + " " + x.shown(5) + " " + x.shown(9), "91 49 50 51");
        // the highest bit of an int is part of a byte
        x.feed(0x73686f77, 0x2031ff3b, 0, 0, 0);
        Desk.due("byte 255", x.run() + " " + x.place(), "-99 6");
        // behind an end that is no multiple of four
        x.feed(0x73686f77, 0x20313b73, 0, 0, 0);
        x.end(7);
        Desk.due("feed behind 7", x.feed(0x73686f77, 0x20343b20, 0x20202020, 0x20202020, 0x20202020), 27);
        Desk.due("run", x.run(), 2);
    }

    private static String feeds(MatrixScripts x) {
        try {
            return "" + x.feed(0x20202020, 0x20202020, 0x20202020, 0x20202020, 0x20202020);
        } catch (IllegalStateException e) {
            return "throws";
        }
    }

    private static void feedThrowsWhenFull() {
        MatrixScripts x = new MatrixScripts();
        for (int i = 1; i <= 3276; i++) {
            String got = feeds(x);
            if (i % 500 == 0 || i == 3276) {
                Desk.due("feed " + i, got, "" + 20 * i);
            }
        }
        Desk.due("feed beyond", feeds(x), "throws");
        Desk.due("bytes then", x.told(3), 65520);
        x.end(65516);
        Desk.due("feed to the brim", feeds(x), "65536");
        Desk.due("feed beyond the brim", feeds(x), "throws");
        x.end(65517);
        Desk.due("feed one too many", feeds(x), "throws");
        Desk.due("bytes then", x.told(3), 65517);
        Desk.due("run of blanks", x.run(), 0);
        Desk.due("bytes after run", x.told(3), 0);
        Desk.due("feed after run", feeds(x), "20");
    }

    private static void endCutsTheTape() {
        Desk desk = new Desk();
        desk.feed("show 12345;show 6;!!");
        desk.scripts.end(11);
        Desk.due("bytes", desk.scripts.told(3), 11);
        Desk.due("run", desk.scripts.run(), 1);
        Desk.due("page", desk.page(), "[12345]\n");
        desk.feed("show 1;");
        desk.scripts.end(7);
        desk.scripts.end(0);
        Desk.due("bytes", desk.scripts.told(3), 0);
        desk.feed("a=1;bbbbb");
        desk.scripts.end(4);
        desk.feed("c=2;");
        Desk.due("what was cut off is gone", desk.scripts.run(), 2);
    }

    private static String ends(MatrixScripts x, int n) {
        try {
            x.end(n);
            return "done";
        } catch (IllegalArgumentException e) {
            return "throws";
        }
    }

    private static void endThrows() {
        MatrixScripts x = new MatrixScripts();
        Desk.due("end(0)", ends(x, 0), "done");
        Desk.due("end(1)", ends(x, 1), "throws");
        Desk.due("end(-1)", ends(x, -1), "throws");
        feeds(x);
        Desk.due("end(21)", ends(x, 21), "throws");
        Desk.due("end(-1)", ends(x, -1), "throws");
        Desk.due("end(min)", ends(x, Integer.MIN_VALUE), "throws");
        Desk.due("end(max)", ends(x, Integer.MAX_VALUE), "throws");
        Desk.due("bytes", x.told(3), 20);
        Desk.due("end(20)", ends(x, 20), "done");
        Desk.due("end(19)", ends(x, 19), "done");
        Desk.due("end(20) of 19", ends(x, 20), "throws");
        Desk.due("bytes", x.told(3), 19);
    }

    private static void runTellsStatementsOrFault() {
        Desk desk = new Desk();
        Desk.due("three", desk.run("a=1;b=2;show a+b;"), 3);
        Desk.due("tape is empty then", desk.scripts.told(3), 0);
        Desk.due("no words", desk.run(" # nothing; at all\n\t\r"), 0);
        Desk.due("a fault", desk.run("c=3;show d;e=4;"), -97);
        Desk.due("tape is empty then", desk.scripts.told(3), 0);
        Desk.due("names", desk.scripts.told(0), 3);
        Desk.due("no statement is done", desk.run("d=1;show ;"), -98);
        Desk.due("names", desk.scripts.told(0), 3);
    }

    private static void placeIsThatOfTheLatestRun() {
        Desk desk = new Desk();
        desk.run("show 1/0;");
        Desk.due("fault", desk.scripts.place(), 6);
        desk.feed("show 1;");
        Desk.due("before the next run", desk.scripts.place(), 6);
        desk.scripts.run();
        Desk.due("no fault", desk.scripts.place(), -1);
        desk.run("  x");
        Desk.due("at the end", desk.scripts.place(), 3);
        desk.scripts.run();
        Desk.due("empty run", desk.scripts.place(), -1);
    }

    private static String shown(MatrixScripts x, int i) {
        try {
            return "" + x.shown(i);
        } catch (IndexOutOfBoundsException e) {
            return "throws";
        }
    }

    private static void pageIsKeptAndShown() {
        Desk desk = new Desk();
        MatrixScripts x = desk.scripts;
        Desk.due("nothing shown", shown(x, 0) + shown(x, -1), "throwsthrows");
        desk.run("show [1/2, -3; 0, 44];");
        Desk.due("page", desk.page(), "[1/2, -3; 0, 44]\n");
        Desk.due("length", x.length(), 17);
        Desk.due("last", shown(x, 16), "10");
        Desk.due("behind", shown(x, 17), "throws");
        Desk.due("before", shown(x, -1), "throws");
        Desk.due("far", shown(x, Integer.MAX_VALUE) + shown(x, Integer.MIN_VALUE), "throwsthrows");
        desk.run("show 5; show 1/0;");
        Desk.due("one more, ahead of the fault", desk.page(), "[1/2, -3; 0, 44]\n[5]\n");
    }

    private static void wipeEmptiesThePage() {
        Desk desk = new Desk();
        desk.run("a=7;show a;");
        Desk.due("wipe", desk.scripts.wipe(), 4);
        Desk.due("length", desk.scripts.length(), 0);
        Desk.due("shown", shown(desk.scripts, 0), "throws");
        Desk.due("again", desk.scripts.wipe(), 0);
        desk.run("show a;");
        Desk.due("names stay", desk.page(), "[7]\n");
    }

    private static void forgetTakesTheNames() {
        Desk desk = new Desk();
        desk.run("a=1;b=2;a=3;show a;");
        Desk.due("forget", desk.scripts.forget(), 2);
        Desk.due("again", desk.scripts.forget(), 0);
        Desk.due("the page stays", desk.scripts.length(), 4);
        Desk.due("statements stay", desk.scripts.told(2), 4);
        Desk.due("names", desk.scripts.told(0) + " " + desk.scripts.told(1), "0 0");
        Desk.due("no value", desk.run("show a;") + " " + desk.scripts.place(), "-97 5");
        Desk.due("a new value", desk.run("a=9;show a;"), 2);
    }

    private static void toldTells() {
        Desk desk = new Desk();
        MatrixScripts x = desk.scripts;
        desk.run("a=0;");
        Desk.due("COMMON alone has a limb", x.told(1), 1);
        desk.run("a=2^31;");
        Desk.due("32 bits", x.told(1), 2);
        desk.run("a=2^32;");
        Desk.due("33 bits", x.told(1), 3);
        desk.run("b=[1/2^32,1;0,5];");
        Desk.due("all over COMMON", x.told(1), 3 + 2 + 1 + 2 + 0 + 2);
        Desk.due("names", x.told(0), 2);
        Desk.due("statements", x.told(2), 4);
        Desk.due("fault", desk.run("c=1;c=2;c=1/0;c=3;"), -93);
        Desk.due("those ahead of a fault count", x.told(2), 6);
        Desk.due("c", desk.run("check c=2;"), 1);
        desk.feed("abc");
        Desk.due("bytes", x.told(3), 3);
        Desk.due("others", x.told(4) + " " + x.told(-1) + " " + x.told(Integer.MIN_VALUE) + " " + x.told(99), "-1 -1 -1 -1");
    }
}
