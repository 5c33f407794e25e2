/** Promises 4 and 5: faults 3 to 7 and 9, where they are, and which of them comes first. */
public final class FaultsTest {
    private static final String[] CALLED = {
        "det", "trace", "rank", "rows", "columns", "echelon", "kernel", "inverse", "solve", "mod",
        "hermite", "smith", "charpoly", "minpoly", "frobenius", "lll", "swaps", "id", "zero", "part",
    };

    public static void main(String[] args) {
        namesWithoutValues();
        valuesForCalledNames();
        howMany();
        shapes();
        numbersBehindTheSemicolon();
        noSuchThing();
        wordByWord();
        oneAfterAnother();
        faultsDoNothing();
        Desk.close("FaultsTest");
    }

    private static void namesWithoutValues() {
        Desk.fault("show a;", 3, 5);
        Desk.fault("a=b;", 3, 2);
        Desk.fault("a=a;", 3, 2);
        Desk.fault("a=1;show a(1);", 3, 9);
        Desk.fault("show nothing(1/0);", 3, 5);
        Desk.fault("show nothing();", 3, 5);
        Desk.fault("a=1;show A;", 3, 9);
        Desk.fault("aaaa=1;aaaab=1;show aaa;", 3, 20);
        for (String name : CALLED) {
            Desk.fault("show 1+" + name + ";", 3, 7);
            Desk.fault("show " + name + "*(1);", 3, 5);
        }
    }

    private static void valuesForCalledNames() {
        for (String name : CALLED) {
            Desk.fault("x=1;" + name + "=1/0;", 4, 4);
        }
        Desk.fault("det=nothing;", 4, 0);
    }

    private static void howMany() {
        for (String name : CALLED) {
            boolean none = name.equals("id") || name.equals("zero");
            Desk.fault("show -" + name + "();", 5, 6);
            Desk.fault("show -" + name + "(1,1,1);", 5, 6);
            Desk.fault("show -" + name + "(" + (none ? "" : name.equals("solve") ? "1,1" : "1") + ";2,3,5);", 5, 6);
            Desk.fault("show -" + name + "(1,1,1;1,1,1,1,1);", 5, 6);
            if (!name.equals("solve")) {
                Desk.fault("show -" + name + "(1,1" + (none ? ";1" : "") + ");", 5, 6);
            }
        }
        Desk.fault("show solve(1);", 5, 5);
        Desk.fault("show mod(1);", 5, 5);
        Desk.fault("show id(2);", 5, 5);
        Desk.fault("show id(1;2);", 5, 5);
        Desk.fault("show zero(;2);", 5, 5);
        Desk.fault("show part(1;1,1,1);", 5, 5);
        Desk.fault("show part(1;1,1,1,1,1);", 5, 5);
        for (String name : new String[] {"trace", "rows", "columns", "hermite", "smith", "charpoly", "minpoly", "frobenius", "lll", "swaps"}) {
            Desk.fault("show " + name + "(1;2);", 5, 5);
        }
    }

    private static void shapes() {
        Desk.fault("show [1,2]+[1,2,3];", 5, 10);
        Desk.fault("show 1+[1,2];", 5, 6);
        Desk.fault("show [1,2]-1;", 5, 10);
        Desk.fault("show [1,2]*[1,2];", 5, 10);
        Desk.fault("show [1;2]*[1;2];", 5, 10);
        Desk.fault("show 1/[1,2];", 5, 6);
        Desk.fault("show [1,2]/[1;2];", 5, 10);
        Desk.fault("show [1,2]^2;", 5, 10);
        Desk.fault("show [1,2]^0;", 5, 10);
        Desk.fault("show [1,2]^-1;", 5, 10);
        Desk.fault("show 1+[1,[1;2]];", 5, 7);
        Desk.fault("show 1+[1,2;3];", 5, 7);
        Desk.fault("show [1;2,3];", 5, 5);
        Desk.fault("show [1,2;3,4;5];", 5, 5);
        Desk.fault("show [[1;2],[1;2;3]];", 5, 5);
        Desk.fault("show [1,2;[3;4]];", 5, 5);
        for (String name : new String[] {"det", "trace", "inverse", "charpoly", "minpoly", "frobenius"}) {
            Desk.fault("show " + name + "([1,2]);", 5, 5);
            Desk.fault("show " + name + "([1;2]);", 5, 5);
        }
        Desk.fault("show det([1,2];5);", 5, 5);
        Desk.fault("show inverse([1;2];5);", 5, 5);
        Desk.fault("show solve([1,2],[1;2]);", 5, 5);
        Desk.fault("show solve([1,2;3,4],[1,2];7);", 5, 5);
        Desk.fault("show frobenius(zero(;9,8));", 5, 5);
    }

    private static void numbersBehindTheSemicolon() {
        for (String p : new String[] {"0", "1", "4", "9", "15", "561", "2147483646", "2147483648", "2147483649", "4294967291", "25326001",
            "46341", "2147395600", "3215031751", "9".repeat(600)}) {
            Desk.fault("show mod(1; " + p + ");", 6, 12);
            Desk.fault("show rank(1; " + p + ");", 6, 13);
        }
        for (String p : new String[] {"2", "3", "5", "7", "11", "46337", "65537", "2147483629", "2147483647", "0002", "0".repeat(590) + "2147483647"}) {
            Desk.shows("show det(1;" + p + ");", "[1]|");
        }
        for (String name : new String[] {"echelon", "kernel", "inverse", "det", "mod"}) {
            Desk.fault("show " + name + "(0;6);", 6, 8 + name.length());
        }
        Desk.fault("show solve(0,1;6);", 6, 15);
        Desk.fault("show id(;0);", 6, 9);
        Desk.fault("show id(;65);", 6, 9);
        Desk.fault("show id(; 4294967297);", 6, 10);
        Desk.fault("show zero(;0,1);", 6, 11);
        Desk.fault("show zero(;1,0);", 6, 11);
        Desk.fault("show zero(;1,65);", 6, 11);
        Desk.fault("show zero(;65,1);", 6, 11);
        Desk.fault("show part([1,2,3;4,5,6];0,1,1,1);", 6, 24);
        Desk.fault("show part([1,2,3;4,5,6];2,1,1,1);", 6, 24);
        Desk.fault("show part([1,2,3;4,5,6];1,3,1,1);", 6, 24);
        Desk.fault("show part([1,2,3;4,5,6];1,1,0,1);", 6, 24);
        Desk.fault("show part([1,2,3;4,5,6];1,1,3,2);", 6, 24);
        Desk.fault("show part([1,2,3;4,5,6];1,1,1,4);", 6, 24);
        Desk.fault("show part([1,2,3;4,5,6];1,1,1,4294967297);", 6, 24);
        Desk.shows("show part([1,2,3;4,5,6];1,2,1,3);", "[1, 2, 3; 4, 5, 6]|");
        Desk.fault("show 2^1001;", 6, 7);
        Desk.fault("show 2^-1001;", 6, 8);
        Desk.fault("show 2^ - 4294967297;", 6, 10);
        Desk.fault("show 0^-" + "9".repeat(600) + ";", 6, 8);
        Desk.shows("show 1^01000;show 1^-1000;", "[1]|[1]|");
    }

    private static void noSuchThing() {
        Desk.fault("show 1/0;", 7, 6);
        Desk.fault("show [1,2]/(1-1);", 7, 10);
        Desk.fault("show [1,2;2,4]^-1;", 7, 14);
        Desk.fault("show 0^-2;", 7, 6);
        Desk.fault("show inverse([1,2;2,4]);", 7, 5);
        Desk.fault("show inverse(0);", 7, 5);
        Desk.fault("show inverse([1,2;3,4];2);", 7, 5);
        Desk.fault("show solve([1,2;2,4],[1;1]);", 7, 5);
        Desk.fault("show solve(0,1);", 7, 5);
        Desk.fault("show solve([1;1],[1;2]);", 7, 5);
        Desk.fault("show solve(2,1;2);", 7, 5);
        Desk.fault("show kernel(1);", 7, 5);
        Desk.fault("show kernel([1,2;3,4]);", 7, 5);
        Desk.fault("show kernel([1;2;3]);", 7, 5);
        Desk.fault("show kernel([1,2;3,4];3);", 7, 5);
        Desk.fault("show mod([1,1/6];3);", 7, 5);
        Desk.fault("show det(1/2;2);", 7, 5);
        Desk.fault("show rank([1,1/14];7);", 7, 5);
        Desk.fault("show echelon(1/2147483647;2147483647);", 7, 5);
        Desk.fault("show solve(1,1/5;5);", 7, 5);
        Desk.fault("show solve(1/5,1;5);", 7, 5);
        Desk.fault("show hermite([1,1/2]);", 7, 5);
        Desk.fault("show smith(1/3);", 7, 5);
        Desk.fault("show lll([1,2;2,4]);", 7, 5);
        Desk.fault("show lll(0);", 7, 5);
        Desk.fault("show lll([1;2]);", 7, 5);
        Desk.fault("show swaps([1,2;3,4;5,6]);", 7, 5);
        Desk.fault("show swaps([1/2,0;0,0]);", 7, 5);
    }

    private static void wordByWord() {
        Desk.fault("show 1/0+nothing;", 7, 6);
        Desk.fault("show nothing+1/0;", 3, 5);
        Desk.fault("show 1+nothing/0;", 3, 7);
        Desk.fault("show [1,2]+(1/0);", 7, 13);
        Desk.fault("show [1,2]*[1,2]*nothing;", 5, 10);
        Desk.fault("show nothing(nix);", 3, 5);
        Desk.fault("show det(nix);", 3, 9);
        Desk.fault("show det(1/0,2);", 7, 10);
        Desk.fault("show id(nix;0);", 3, 8);
        Desk.fault("show mod(nix;4);", 3, 9);
        Desk.fault("show [1,2;3,nix];", 3, 12);
        Desk.fault("show [1,[2;3],nix];", 3, 14);
        Desk.fault("show -nix;", 3, 6);
        Desk.fault("show -[1,2]*[1,2];", 5, 11);
        Desk.fault("check 1/0=nix;", 7, 7);
        Desk.fault("check 1=nix;", 3, 8);
        Desk.fault("check 1=2;show nix;", 9, 0);
        Desk.fault("show nix^1001;", 3, 5);
    }

    private static void oneAfterAnother() {
        // 5, then 6
        Desk.fault("show det([1,2];4);", 5, 5);
        Desk.fault("show solve([1,2],[1;2];4);", 5, 5);
        Desk.fault("show [1,2]^1001;", 5, 10);
        // 6, then 8
        Desk.fault("show zero(;64,65);", 6, 11);
        Desk.fault("show mod(1/2;4);", 6, 13);
        Desk.fault("show zero(;64,64);", 8, 5);
        Desk.fault("show id(;64);", 8, 5);
        // 8 for weight, then 7
        Desk.fault("d=2^1000;show hermite(1/d/d);", 8, 14);
        Desk.fault("d=2^1000;show lll([d*d;1]);", 8, 14);
        Desk.fault("d=2^1000;show inverse([d,d;d,d]);", 8, 14);
        Desk.fault("d=2^1000;show solve([d,d;d,d],[1;2]);", 8, 14);
        Desk.fault("d=2^1000;show kernel([d,0;0,d]);", 8, 14);
        Desk.fault("d=2^1000;show [d,d;d,d]^-1;", 8, 23);
        // 7, then 8 for what comes out
        Desk.fault("z=zero(;1,64);show solve(z,z+[z*z'+1" + ",0".repeat(63) + "]);", 7, 19);
        Desk.fault("z=zero(;1,64);show solve(z,z);", 8, 19);
        Desk.fault("z=zero(;1,64);show kernel(z);", 8, 19);
        Desk.fault("z=zero(;1,64);show kernel(z;2);", 8, 19);
    }

    private static void faultsDoNothing() {
        Desk desk = new Desk();
        Desk.due("run", desk.run("a=1;b=2;show a;a=1/0;show b;"), -93);
        Desk.due("page", desk.page(), "[1]\n");
        Desk.due("names", desk.scripts.told(0) + " " + desk.scripts.told(1) + " " + desk.scripts.told(2), "2 4 3");
        Desk.due("a", desk.run("check a=1;"), 1);
        Desk.due("a word that cannot come", desk.run("a=5;a=;"), -98);
        Desk.due("a", desk.run("check a=1;"), 1);
        Desk.due("no word", desk.run("a=5;$"), -99);
        Desk.due("a", desk.run("check a=1;"), 1);
    }
}
