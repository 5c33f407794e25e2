/** Promises 4 and 5: words and grammar, faults 1 and 2. */
public final class WordsTest {
    private static final String LONGEST_NAME = "a234567890b234567890c234567890d23456789_";

    public static void main(String[] args) {
        words();
        numbers();
        noWords();
        wordsThatCannotCome();
        ends();
        depth();
        firstFaultFromTheBeginning();
        Desk.close("WordsTest");
    }

    private static void words() {
        Desk.script("", 0, -1, "");
        Desk.script("#", 0, -1, "");
        Desk.script("# show 1;", 0, -1, "");
        Desk.script("#\377\000$\nshow 1;", 1, -1, "[1]|");
        Desk.script("show\t1\r\n;#x", 1, -1, "[1]|");
        Desk.script("show 1#;\n+2;", 1, -1, "[3]|");
        Desk.script("show(1);show[2];", 2, -1, "[1]|[2]|");
        Desk.script("a=1;A=2;show a;show A;", 4, -1, "[1]|[2]|");
        Desk.script("shows=1;Show=2;check1=3;show shows+Show+check1;", 4, -1, "[6]|");
        Desk.script("x_1Z=4;show x_1Z;", 2, -1, "[4]|");
        Desk.script(LONGEST_NAME + "=4;show " + LONGEST_NAME + ";", 2, -1, "[4]|");
        Desk.script("dets=4;show dets;Det=5;show Det;", 4, -1, "[4]|[5]|");
    }

    private static void numbers() {
        String most = "9".repeat(600);
        Desk.script("show " + most + ";", 1, -1, "[" + most + "]|");
        Desk.script("show 0007;show 00;", 2, -1, "[7]|[0]|");
        Desk.script("show " + "0".repeat(599) + "3;", 1, -1, "[3]|");
        Desk.fault("show " + "0".repeat(600) + "3;", 1, 5);
        Desk.fault("show " + most + "9;", 1, 5);
        Desk.fault("show 12a;", 1, 5);
        Desk.fault("show 12_;", 1, 5);
        Desk.fault("show 12 a;", 2, 8);
        Desk.script("show 12#a\n;", 1, -1, "[12]|");
    }

    private static void noWords() {
        Desk.fault("$", 1, 0);
        Desk.fault("show 1;\n  _a=2;", 1, 10);
        Desk.fault("show 1 . 2;", 1, 7);
        Desk.fault("show 1\000;", 1, 6);
        Desk.fault("show 1\200;", 1, 6);
        Desk.fault("show 1\013;", 1, 6);
        Desk.fault("show \"1\";", 1, 5);
        Desk.fault("show {1};", 1, 5);
        Desk.fault("a=" + LONGEST_NAME + "e;", 1, 2);
        Desk.fault(LONGEST_NAME + "e=1;", 1, 0);
    }

    private static void wordsThatCannotCome() {
        Desk.fault(";", 2, 0);
        Desk.fault("1=2;", 2, 0);
        Desk.fault("a 1;", 2, 2);
        Desk.fault("a=;", 2, 2);
        Desk.fault("a=1,", 2, 3);
        Desk.fault("show 1 2;", 2, 7);
        Desk.fault("show show;", 2, 5);
        Desk.fault("show check;", 2, 5);
        Desk.fault("show=1;", 2, 4);
        Desk.fault("check=1;", 2, 5);
        Desk.fault("check 1;", 2, 7);
        Desk.fault("check 1=2=3;", 2, 9);
        Desk.fault("show --1;", 2, 6);
        Desk.fault("show +1;", 2, 5);
        Desk.fault("show 1*-1;", 2, 7);
        Desk.fault("show 1+-1;", 2, 7);
        Desk.script("show 1+(-1);", 1, -1, "[0]|");
        Desk.fault("show 2^a;", 2, 7);
        Desk.fault("show 2^--1;", 2, 8);
        Desk.fault("show 2^(1);", 2, 7);
        Desk.fault("show 2^-;", 2, 8);
        Desk.fault("show ();", 2, 6);
        Desk.fault("show [];", 2, 6);
        Desk.fault("show [1,];", 2, 8);
        Desk.fault("show [1;];", 2, 8);
        Desk.fault("show [;1];", 2, 6);
        Desk.fault("show [1);", 2, 7);
        Desk.fault("show (1];", 2, 7);
        Desk.fault("show (1,2);", 2, 7);
        Desk.fault("show id(;);", 2, 9);
        Desk.fault("show id(;2,);", 2, 11);
        Desk.fault("show id(;2;3);", 2, 10);
        Desk.fault("show id(;-2);", 2, 9);
        Desk.fault("show id(;x);", 2, 9);
        Desk.fault("show id(,);", 2, 8);
        Desk.fault("show rank(1,);", 2, 12);
        Desk.fault("show rank(1;2 3);", 2, 14);
        Desk.fault("show 1'2;", 2, 7);
        Desk.fault("show 1(2);", 2, 6);
        Desk.fault("show a=1;", 2, 6);
        Desk.fault("show 1)", 2, 6);
    }

    private static void ends() {
        Desk.fault("show", 2, 4);
        Desk.fault("show 1", 2, 6);
        Desk.fault("show 1  # more;\n ", 2, 17);
        Desk.fault("show 1 # more;", 2, 14);
        Desk.fault("a", 2, 1);
        Desk.fault("show (1", 2, 7);
        Desk.fault("show [1;", 2, 8);
        Desk.fault("show 2^", 2, 7);
        Desk.fault("show id(", 2, 8);
        Desk.fault("show id(;2", 2, 10);
        Desk.fault("check 1=", 2, 8);
    }

    private static void depth() {
        Desk.script("show " + "(".repeat(30) + "1" + ")".repeat(30) + ";", 1, -1, "[1]|");
        Desk.fault("show " + "(".repeat(31) + "1" + ")".repeat(31) + ";", 2, 35);
        Desk.script("show " + "[".repeat(30) + "1" + "]".repeat(30) + ";", 1, -1, "[1]|");
        Desk.fault("show " + "[".repeat(31) + "1" + "]".repeat(31) + ";", 2, 35);
        Desk.script("show " + "-det(".repeat(30) + "-1" + ")".repeat(30) + ";", 1, -1, "[-1]|");
        Desk.fault("show " + "det(".repeat(31) + "1" + ")".repeat(31) + ";", 2, 5 + 4 * 31 - 1);
        Desk.fault("show " + "([".repeat(15) + "det(1)" + "])".repeat(15) + ";", 2, 5 + 30 + 3);
        Desk.script("show " + "(".repeat(30) + "1" + ")".repeat(30) + "+" + "(".repeat(30) + "1" + ")".repeat(30) + ";", 1, -1, "[2]|");
        Desk.script("show (1)" + "+(1)".repeat(40) + ";", 1, -1, "[41]|");
    }

    private static void firstFaultFromTheBeginning() {
        Desk.fault("show 1 2; $", 2, 7);
        Desk.fault("show 1; $ show 1 2;", 1, 8);
        Desk.fault("show nothing; show 1/0; a=;", 2, 26);
        Desk.script("show 1; show nothing; $", -99, 22, "");
        Desk.fault("a 12x;", 1, 2);
    }
}
