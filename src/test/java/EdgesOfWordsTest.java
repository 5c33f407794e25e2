/** Terms, 2 SCRIPTS and faults 1 and 2: each sentence that names a boundary case, one by one. */
public final class EdgesOfWordsTest {
    private static final String NAME_40 = "a234567890b234567890c234567890d23456789_";
    private static final String[] CALLED = {
        "det", "trace", "rank", "rows", "columns", "echelon", "kernel", "inverse", "solve", "mod",
        "hermite", "smith", "charpoly", "minpoly", "frobenius", "lll", "swaps", "id", "zero", "part",
    };

    public static void main(String[] args) {
        blanks();
        comments();
        namesOfLetters();
        smallAndCapital();
        namesOf40();
        numbersOf600();
        behindTheLastDigit();
        signs();
        showAndCheck();
        calledNames();
        whatMayBeLeftOut();
        whatMayBeThereAnyNumberOfTimes();
        depth();
        noWord();
        firstFromTheBeginning();
        noStatementIsDone();
        Desk.close("EdgesOfWordsTest");
    }

    private static boolean isLetter(int b) {
        return b >= 'a' && b <= 'z' || b >= 'A' && b <= 'Z';
    }

    private static boolean isDigit(int b) {
        return b >= '0' && b <= '9';
    }

    private static void blanks() {
        Desk.sentence("BLANKS are the bytes 9, 10, 13 and 32");
        for (int b = 0; b < 256; b++) {
            boolean blank = b == 9 || b == 10 || b == 13 || b == 32;
            String c = "" + (char) b;
            Desk desk = new Desk();
            if (blank) {
                Desk.due("byte " + b, desk.told(c + "show" + c + c + "1" + c + ";" + c), "1 -1 [1]|");
            } else if (b != '#') {
                Desk.due("byte " + b, desk.run(c + "show 1;") < 0, true);
            }
        }
        Desk.sentence("Both are left out between words.");
        Desk.shows("a=1;show(a)+a*a/a^1';", "[2]|");
        Desk.shows(" a = 1 ; show ( a ) + a * a / a ^ 1 ' ; ", "[2]|");
        Desk.shows("show [1,2;3,4]^-1;", "[-2, 1; 3/2, -1/2]|");
        Desk.shows("show\t[\n1\r, 2;3 ,\n4 ] ^\t- 1\n;", "[-2, 1; 3/2, -1/2]|");
        new Desk().beyond(2, "show 1 @2;");
        new Desk().beyond(2, "sh @ow 1;");
        new Desk().beyond(2, "a @show 1;");
        new Desk().beyond(3, "show @showa;");
    }

    private static void comments() {
        Desk.sentence("a comment is # and all up to the next byte 10, or the tape's end");
        Desk.script("show 1;#show 2;\nshow 3;", 2, -1, "[1]|[3]|");
        Desk.script("show 1;#show 2;\rshow 3;", 1, -1, "[1]|");
        Desk.script("show 1;# # \n#\n##\nshow 3;#", 2, -1, "[1]|[3]|");
        Desk.script("show 1#2\n3;", -98, 9, "");
        Desk.script("show 1#2\n+3;", 1, -1, "[4]|");
        Desk.script("sh#\now 1;", -98, 4, "");
        StringBuilder all = new StringBuilder("show 1;#");
        for (int b = 0; b < 256; b++) {
            if (b != 10) {
                all.append((char) b);
            }
        }
        Desk.script(all + ";", 1, -1, "[1]|");
        Desk.script(all + "\n;", -98, all.length() + 1, "");
    }

    private static void namesOfLetters() {
        Desk.sentence("A NAME: a letter (a to z, A to Z), and all letters, digits and _ that follow");
        for (int b = 0; b < 256; b++) {
            String c = "" + (char) b;
            if (isLetter(b)) {
                Desk.script(c + "=3;show " + c + ";", 2, -1, "[3]|");
            } else {
                Desk.due("name from byte " + b, new Desk().run(c + "=3;") < 0 || b == '#', true);
            }
            if (isLetter(b) || isDigit(b) || b == '_') {
                Desk.script("x" + c + "=3;show x" + c + ";", 2, -1, "[3]|");
                new Desk().beyond(3, "x" + c + "=3;show @x;");
            } else if (b == 9 || b == 10 || b == 13 || b == 32) {
                Desk.script("x" + c + "=3;show x" + c + ";", 2, -1, "[3]|");
            } else if (b != '#') {
                Desk.due("name with byte " + b, new Desk().run("x" + c + "=3;") < 0, true);
            }
        }
        new Desk().beyond(1, "@_=1;");
        new Desk().beyond(1, "@_a=1;");
        new Desk().beyond(1, "@1a=1;");
        new Desk().within("a_=1;a1=2;a__1_=3;check a_+a1=a__1_;");
    }

    private static void smallAndCapital() {
        Desk.sentence("small and capital ones are others");
        Desk.shows("ab=1;aB=2;Ab=3;AB=4;show [ab,aB,Ab,AB];", "[1, 2, 3, 4]|");
        new Desk().beyond(3, "ab=1;show @Ab;");
        Desk.shows("Show=1;SHOW=2;Check=3;Det=4;ID=5;show [Show,SHOW,Check,Det,ID];", "[1, 2, 3, 4, 5]|");
    }

    private static void namesOf40() {
        Desk.sentence("A NAME: at most 40 bytes");
        Desk.due("length", NAME_40.length(), 40);
        new Desk().within(NAME_40 + "=1;show " + NAME_40 + ";");
        new Desk().beyond(1, "@" + NAME_40 + "e=1;");
        new Desk().beyond(1, "x=1;show 1+@" + NAME_40 + "e;");
        new Desk().beyond(1, "show @" + NAME_40 + "e(1);");
        new Desk().beyond(3, "show @" + NAME_40 + "(1);");
        new Desk().beyond(1, "  @" + "z".repeat(41) + "=1;");
        new Desk().within("  " + "z".repeat(40) + "=1;");
        new Desk().beyond(1, "@" + "z".repeat(3000) + "=1;");
        Desk.sentence("A NAME stands for itself: 40 bytes long, others in any of them");
        String letters = "p".repeat(40);
        for (int i = 0; i < 40; i++) {
            // bytes that have most of their bits in common
            for (char c : i == 0 ? "Pqxtro".toCharArray() : "P0qxtro_".toCharArray()) {
                String other = letters.substring(0, i) + c + letters.substring(i + 1);
                Desk.script(letters + "=1;" + other + "=2;show " + letters + ";show " + other + ";", 4, -1, "[1]|[2]|");
            }
            if (i > 0) {
                Desk.script(NAME_40 + "=1;" + NAME_40.substring(0, i) + "=2;show " + NAME_40 + ";show " + NAME_40.substring(0, i) + ";", 4, -1, "[1]|[2]|");
            }
        }
    }

    private static void numbersOf600() {
        Desk.sentence("A NUMBER: digits, at most 600 (noughts in front, too)");
        String nines = "9".repeat(600);
        Desk.script("show " + nines + ";", 1, -1, "[" + nines + "]|");
        new Desk().beyond(1, "show @" + nines + "9;");
        Desk.script("show " + "0".repeat(599) + "7;", 1, -1, "[7]|");
        new Desk().beyond(1, "show @" + "0".repeat(600) + "7;");
        Desk.script("show " + "0".repeat(600) + ";", 1, -1, "[0]|");
        new Desk().beyond(1, "show @" + "0".repeat(601) + ";");
        Desk.script("show id(;" + "0".repeat(599) + "1);", 1, -1, "[1]|");
        new Desk().beyond(1, "show id(;@" + "0".repeat(600) + "1);");
        Desk.script("show 2^" + "0".repeat(599) + "3;", 1, -1, "[8]|");
        new Desk().beyond(1, "show 2^@" + "0".repeat(600) + "3;");
        Desk.script("show 2^-" + "0".repeat(599) + "3;", 1, -1, "[1/8]|");
        new Desk().beyond(1, "show 2^-@" + "0".repeat(600) + "3;");
        Desk.shows("show 0;show 00;show 0123456789;", "[0]|[0]|[123456789]|");
    }

    private static void behindTheLastDigit() {
        Desk.sentence("behind its last digit no letter or _ stands (for a number also behind which wrong bytes stand: 1, at its first byte)");
        for (int b = 0; b < 256; b++) {
            Desk desk = new Desk();
            int answer = desk.run("show 123" + (char) b + ";");
            boolean wrong = isLetter(b) || b == '_';
            Desk.due("1 at the number for byte " + b, answer == -99 && desk.scripts.place() == 5, wrong);
        }
        new Desk().beyond(1, "show id(;@2x);");
        new Desk().beyond(1, "show 2^@2x;");
        new Desk().beyond(1, "show 2^-@2_;");
        new Desk().beyond(2, "show 2 @x;");
        new Desk().beyond(1, "show @" + "9".repeat(600) + "x;");
        new Desk().beyond(1, "show @0x10;");
        new Desk().beyond(1, "show @1e5;");
    }

    private static void signs() {
        Desk.sentence("SIGNS: + - * / ^ ' ( ) [ ] , ; =");
        for (int b = 0; b < 256; b++) {
            String c = "" + (char) b;
            String want;
            if ("+-*/^'()[],;=".indexOf(b) >= 0 || isDigit(b)) {
                want = "-98 0 ";
            } else if (isLetter(b)) {
                want = "-98 1 ";
            } else {
                want = "\t\n\r #".indexOf(b) >= 0 ? "0 -1 " : "-99 0 ";
            }
            Desk.due("byte " + b + " alone", new Desk().told(c), want);
        }
    }

    private static void showAndCheck() {
        Desk.sentence("These names are words of their own: show check.");
        new Desk().beyond(2, "show@=1;");
        new Desk().beyond(2, "check@=1;");
        new Desk().beyond(2, "a=@show;");
        new Desk().beyond(2, "a=@check;");
        new Desk().beyond(2, "a=1+@show;");
        new Desk().beyond(2, "show @check(1);");
        new Desk().beyond(2, "a @show;");
        new Desk().within("shows=1;sho=2;check_=3;chec=4;showcheck=5;");
        Desk.shows("show1=7;show show1;show(1);", "[7]|[1]|");
    }

    private static void calledNames() {
        Desk.sentence("These are CALLED: det trace rank rows columns echelon kernel inverse solve mod hermite smith charpoly minpoly ..");
        for (String name : CALLED) {
            new Desk().beyond(4, "@" + name + "=1;");
            new Desk().beyond(3, "show @" + name + ";");
            new Desk().beyond(5, "show @" + name + "();");
            String longer = name + "s";
            String shorter = name.substring(0, name.length() - 1);
            new Desk().within(longer + "=1;" + shorter + "=1;" + name.toUpperCase() + "=1;");
            new Desk().beyond(3, "show @" + longer + "();");
            new Desk().beyond(3, "show @" + shorter + "();");
        }
    }

    private static void whatMayBeLeftOut() {
        Desk.sentence("[ ] round what may be left out");
        Desk.shows("show -1;show 1;show 2^-1;show 2^1;", "[-1]|[1]|[1/2]|[2]|");
        new Desk().beyond(2, "show -@-1;");
        new Desk().beyond(2, "show 2^-@-1;");
        new Desk().beyond(2, "show @+1;");
        new Desk().beyond(2, "show 2^@+1;");
        new Desk().beyond(2, "show 1-@-1;");
        new Desk().beyond(2, "show 1*@-1;");
        new Desk().beyond(2, "show 1/@-1;");
        Desk.shows("show 1*(-1);show [-1,-2;-3,-4];", "[-1]|[-1, -2; -3, -4]|");
        Desk.shows("show solve(-1,-2);show part(-1;1,1,1,1);", "[2]|[-1]|");
        new Desk().beyond(5, "show @id();");
        new Desk().beyond(5, "show @id(1);");
        new Desk().beyond(5, "show @id(1;1);");
        new Desk().beyond(2, "show id(@,;1);");
        new Desk().beyond(2, "show id(;@);");
        new Desk().beyond(2, "show id(;@-1);");
        new Desk().beyond(2, "show id(;1@;1);");
        new Desk().beyond(2, "show id(;1@+1);");
        new Desk().beyond(2, "show id(;@(1));");
        new Desk().beyond(2, "show rank(1@=1);");
        new Desk().beyond(2, "show (@);");
        new Desk().beyond(2, "show [@];");
        new Desk().beyond(2, "show (1@;1);");
        new Desk().beyond(2, "show (1@,1);");
    }

    private static void whatMayBeThereAnyNumberOfTimes() {
        Desk.sentence("{ } round what may be there any number of times");
        Desk.script("", 0, -1, "");
        Desk.script("a=1;", 1, -1, "");
        Desk.script("a=1;".repeat(16384), 16384, -1, "");
        new Desk().beyond(2, "a=1;@;");
        Desk.shows("show 1;show 1+1;show 1" + "+1".repeat(999) + ";", "[1]|[2]|[1000]|");
        Desk.shows("show 1*2/3*4/5;show 1" + "*2".repeat(70) + ";", "[8/15]|[1180591620717411303424]|");
        Desk.shows("show [1,2]'';show [1,2]''';show 2^2^2';show 2'^2'^2;", "[1, 2]|[1; 2]|[16]|[16]|");
        Desk.shows("show [1];show [1,2];show [1;2];", "[1]|[1, 2]|[1; 2]|");
        new Desk().beyond(2, "show [1,@];");
        new Desk().beyond(2, "show [1;@];");
        new Desk().beyond(2, "show [1,@,2];");
        new Desk().beyond(2, "show [1;@;2];");
        new Desk().beyond(2, "show [@,1];");
        new Desk().beyond(2, "show det(1,@);");
        new Desk().beyond(2, "show id(;1,@);");
        new Desk().beyond(2, "check 1=1@=1;");
        new Desk().beyond(2, "a=b@=1;");
        new Desk().beyond(2, "show 1 @show 2;");
        new Desk().beyond(2, "show det(1)@(1);");
        new Desk().beyond(2, "show (1)@(1);");
        new Desk().beyond(2, "show 1'@1;");
    }

    private static void depth() {
        Desk.sentence("DEPTH: how many brackets ( [ stand open; at most 30. (2: a bracket too deep, at it)");
        String[] opens = {"(", "[", "det(", "([", "[det(", "(-", "1+(", "[1,", "solve(1,"};
        String[] closes = {")", "]", ")", "])", ")]", ")", ")", ";1,1]", ")"};
        int[] each = {1, 1, 1, 2, 2, 1, 1, 1, 1};
        for (int i = 0; i < opens.length; i++) {
            int count = 30 / each[i];
            String open = opens[i];
            String fits = "check 1=1;x=" + open.repeat(count) + "1" + closes[i].repeat(count) + ";";
            Desk desk = new Desk();
            int answer = desk.run(fits);
            Desk.due(fits, answer != -98 && answer != -99, true);
            String tooDeep = "x=" + open.repeat(count) + "@(1)" + closes[i].repeat(count) + ";";
            new Desk().beyond(2, tooDeep);
            new Desk().beyond(2, tooDeep.replace("@(1)", "@[1]"));
            new Desk().beyond(2, tooDeep.replace("@(1)", "det@(1)"));
        }
        Desk.sentence("DEPTH: those that stand open");
        Desk.shows("show " + "(".repeat(30) + "1" + ")".repeat(30) + "+" + "[".repeat(30) + "1" + "]".repeat(30) + ";", "[2]|");
        Desk.shows("show " + "(1)+".repeat(100) + "1;", "[101]|");
        Desk.shows("show " + "[1]+".repeat(100) + "1;", "[101]|");
        Desk.shows("show " + "det(1)+".repeat(100) + "1;", "[101]|");
        Desk.shows("show " + "id(;1)+".repeat(100) + "1;", "[101]|");
        Desk.shows("show [1];".repeat(40), "[1]|".repeat(40));
        Desk.shows("show det(1);".repeat(40), "[1]|".repeat(40));
        Desk.shows("show " + "(".repeat(29) + "(1)+(1)+[1]+det(1)" + ")".repeat(29) + ";", "[4]|");
        new Desk().beyond(2, "show " + "(".repeat(29) + "(1)+(1)+[1]+det(@(1))" + ")".repeat(29) + ";");
        Desk.shows(("show " + "(".repeat(30) + "1" + ")".repeat(30) + ";").repeat(2), "[1]|[1]|");
        Desk desk = new Desk();
        for (String open : new String[] {"show ((((", "show [[[[", "show det(det($", "show " + "(".repeat(31), "show det(1/0);", "show [nix];", "show id(;1,1);", "show id(;0);"}) {
            Desk.due(open, desk.run(open) < 0, true);
            Desk.due("in the script after that", desk.told("show " + "(".repeat(30) + "1" + ")".repeat(30) + ";"), "1 -1 [1]|");
            desk.beyond(2, "show " + "(".repeat(30) + "@[1]" + ")".repeat(30) + ";");
        }
    }

    private static void noWord() {
        Desk.sentence("1 no word, at its first byte");
        for (String none : new String[] {"$", "!", "\"", "%", "&", ".", ":", "<", ">", "?", "@", "\\", "_", "`", "{", "|", "}", "~", "\177", "\200", "\377", "\0"}) {
            Desk.fault(none, 1, 0);
            Desk.fault("show 1 " + none + ";", 1, 7);
            Desk.fault("show 1; " + none + none, 1, 8);
            Desk.fault("a " + none + "=1;", 1, 2);
        }
        Desk.fault("show id(;.5);", 1, 9);
        Desk.fault("show 1.5;", 1, 6);
    }

    private static void firstFromTheBeginning() {
        Desk.sentence("First, from its beginning: 1 .. 2 ..");
        new Desk().beyond(1, "@$ show 1 2;");
        new Desk().beyond(2, "show 1 @2; $");
        new Desk().beyond(2, "show 1 @2$");
        new Desk().beyond(1, "show 1 @2x;");
        new Desk().beyond(1, "show 1;@12345x 1;");
        new Desk().beyond(2, "show @) $;");
        new Desk().beyond(2, "@= " + "a".repeat(41) + ";");
        new Desk().beyond(2, "a=" + "(".repeat(30) + "@( $;");
        new Desk().beyond(1, "a=" + "(".repeat(30) + "@$ (;");
        new Desk().beyond(2, "show 1 # $\n@a;");
        // ahead of all that statements do
        new Desk().beyond(1, "show nix;show 1/0;check 1=2;@$");
        new Desk().beyond(2, "det=1;show [1,2]+1;show id(;0);show@;");
        new Desk().beyond(2, "show id(;33);show 2^1001@");
    }

    private static void noStatementIsDone() {
        Desk.sentence("With such a fault no statement is done.");
        Desk desk = new Desk();
        desk.run("a=1;");
        String before = desk.seen();
        for (String wrong : new String[] {"$", "show", "show 1", ";", "2x;", "show " + "(".repeat(31)}) {
            desk.run("a=2;b=3;show a;" + wrong);
            Desk.due("after " + wrong, desk.seen().replace(" " + desk.scripts.place() + " ", " -1 "), before);
        }
        Desk.due("a", desk.told("show a;"), "1 -1 [1]|");
    }
}
