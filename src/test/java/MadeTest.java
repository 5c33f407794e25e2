/** Promises 4 and 7: what is made (sections 3, 4 and 6). */
public final class MadeTest {
    public static void main(String[] args) {
        fractions();
        signs();
        joined();
        powers();
        names();
        checks();
        plainCalls();
        echelons();
        moduloPrimes();
        wholeForms();
        polynomials();
        lattices();
        Desk.close("MadeTest");
    }

    private static void fractions() {
        Desk.shows("show 6/4;show -6/4;show 6/(-4);show -6/(-4);show 0/5;", "[3/2]|[-3/2]|[-3/2]|[3/2]|[0]|");
        Desk.shows("show [1/2,1/3;-1/6,2];", "[1/2, 1/3; -1/6, 2]|");
        Desk.shows("show 1/2+1/2;show 1/3-1/3;", "[1]|[0]|");
        Desk.shows("show 2^64;show 2^64/2^60;show 1/2^70;", "[18446744073709551616]|[16]|[1/1180591620717411303424]|");
        Desk.shows("show 1000000000;show 1000000001*1000000000;show 999999999*1000000001;",
                "[1000000000]|[1000000001000000000]|[999999999999999999]|");
        Desk.shows("show 1-2-3;show 2*3/4*5;show 8/4/2;show -2^2;show (-2)^2;", "[-4]|[15/2]|[1]|[-4]|[4]|");
        Desk.shows("show -1+3;show -2*3+1;", "[2]|[-5]|");
    }

    private static void signs() {
        Desk.shows("show [1,2]+[3,4];show [1,2]-[3,4];show -[1,-2];", "[4, 6]|[-2, -2]|[-1, 2]|");
        Desk.shows("show [1,2,3]';show [1,2;3,4]';show [1;2]';", "[1; 2; 3]|[1, 3; 2, 4]|[1, 2]|");
        Desk.shows("show [1,2;3,4]*[5;6];show [1,2]*3;show 3*[1,2];show [1;2]*[3];show [3]*[1,2];",
                "[17; 39]|[3, 6]|[3, 6]|[3; 6]|[3, 6]|");
        Desk.shows("show [1,2;3,4]/3;show [2,4]/(1/2);", "[1/3, 2/3; 1, 4/3]|[4, 8]|");
        Desk.shows("show [1/2,1/3]*[1/5;1/7];", "[31/210]|");
    }

    private static void joined() {
        Desk.shows("a=[1,2;3,4];show [a,a];show [a;a];show [a,[5;6];7,8,9];",
                "[1, 2, 1, 2; 3, 4, 3, 4]|[1, 2; 3, 4; 1, 2; 3, 4]|[1, 2, 5; 3, 4, 6; 7, 8, 9]|");
        Desk.shows("show [[1/2],1/3;[1/5,2]];show [[[3]]];", "[1/2, 1/3; 1/5, 2]|[3]|");
        Desk.shows("show [1,2;[3,4];-5,[6]];", "[1, 2; 3, 4; -5, 6]|");
        Desk.shows("show [id(;2),zero(;2,1);zero(;1,3)];", "[1, 0, 0; 0, 1, 0; 0, 0, 0]|");
    }

    private static void powers() {
        Desk.shows("a=[1,1;1,0];show a^10;show a^-10;show a^-1;", "[89, 55; 55, 34]|[34, -55; -55, 89]|[0, 1; 1, -1]|");
        Desk.shows("show (1/2)^-3;show (2/3)^5;show 0^0;show 0^5;show 1^1000;show (-1)^999;show 2^0010;",
                "[8]|[32/243]|[1]|[0]|[1]|[-1]|[1024]|");
        Desk.shows("show [0,0;0,0]^0;show [0,0;0,0]^-0;show [1,2;3,4]^1;show [2,0;0,3]'^2';",
                "[1, 0; 0, 1]|[1, 0; 0, 1]|[1, 2; 3, 4]|[4, 0; 0, 9]|");
        Desk.shows("show 2^3^2;show 2^-1^-1;", "[64]|[2]|");
    }

    private static void names() {
        Desk.shows("a=1;a=a+1;b=a;a=5;show a;show b;", "[5]|[2]|");
        Desk desk = new Desk();
        desk.run("a=[1,2;3,4];b=7;");
        desk.run("c=a*b;a=0;");
        desk.run("show a;show b;show c;");
        Desk.due("values stay from run to run", desk.page(), "[0]\n[7]\n[7, 14; 21, 28]\n");
        desk = new Desk();
        StringBuilder many = new StringBuilder();
        for (int i = 0; i < 50; i++) {
            many.append("n").append(i).append("=[").append(i).append(",1/").append(i + 1).append("];");
        }
        desk.run(many.toString());
        for (int i = 0; i < 50; i += 3) {
            desk.run("n" + i + "=n" + i + "*2^" + 10 * i + "/2^" + 10 * i + "+n" + (49 - i) + "-n" + (49 - i) + ";");
        }
        for (int i = 0; i < 50; i++) {
            Desk.due("n" + i, desk.run("check n" + i + "=[" + i + ",1/" + (i + 1) + "];"), 1);
        }
        Desk.due("limbs", desk.scripts.told(1), 149);
    }

    private static void checks() {
        Desk.script("check 1/2=2/4;check [1,2]=[1,2];check [1,2]'=[1;2];", 3, -1, "");
        Desk.fault("check 1=2;", 9, 0);
        Desk.fault("check 1=1; check [1,2]=[1;2];", 9, 11);
        Desk.fault("check [1,1]=1;", 9, 0);
        Desk.fault("check 1=-1;", 9, 0);
        Desk.fault("check 1/2=1/3;", 9, 0);
        Desk.fault("check 2^31=2^62;", 9, 0);
        Desk.script("check [[1,2]]=[1,2];check (1)=[1;2]'*[1;0];", 2, -1, "");
    }

    private static void plainCalls() {
        Desk.shows("show id(;1);show id(;3);show zero(;2,3);show zero(;1,1);",
                "[1]|[1, 0, 0; 0, 1, 0; 0, 0, 1]|[0, 0, 0; 0, 0, 0]|[0]|");
        Desk.shows("a=[1,2,3;4,5,6;7,8,9/2];show part(a;1,1,1,1);show part(a;2,3,1,2);show part(a;1,3,3,3);show part(a;3,3,3,3);",
                "[1]|[4, 5; 7, 8]|[3; 6; 9/2]|[9/2]|");
        Desk.shows("show trace([1/2,9;9,1/3]);show trace(5);show rows([1;2;3]);show columns([1;2;3]);show columns(zero(;2,64));",
                "[5/6]|[5]|[3]|[1]|[64]|");
        Desk.shows("show trace(id(;002));show part([1,2];01,1,0002,2);", "[2]|[2]|");
    }

    private static void echelons() {
        Desk.shows("show echelon([2,4;1,3]);show echelon([0,0;0,0]);show echelon([0,3,6]);show echelon([0;5]);",
                "[1, 0; 0, 1]|[0, 0; 0, 0]|[0, 1, 2]|[1; 0]|");
        Desk.shows("show echelon([1,2,3,4;2,4,6,9;1,2,3,5]);", "[1, 2, 3, 0; 0, 0, 0, 1; 0, 0, 0, 0]|");
        Desk.shows("show echelon([1/2,1/3,1;1/4,1/5,1]);", "[1, 0, -8; 0, 1, 15]|");
        Desk.shows("show rank([1,2;2,4]);show rank(0);show rank([0,0,7]);show rank(id(;5));", "[1]|[0]|[1]|[5]|");
        Desk.shows("show kernel([1,1,1]);show kernel([0,0]);show kernel([0,1,0]);show kernel([1,2,3;4,5,6]);",
                "[1, 0, -1; 0, 1, -1]|[1, 0; 0, 1]|[1, 0, 0; 0, 0, 1]|[1, -2, 1]|");
        Desk.shows("show kernel([2,3]);show kernel([1/2,0,1/3;0,0,0]);show kernel(0);", "[1, -2/3]|[1, 0, -3/2; 0, 1, 0]|[1]|");
        Desk.shows("show solve([1,2;3,4],[5;6]);show solve([1,1],[3,4]);show solve([0,2,0,4],6);show solve([0,0;0,0],[0;0]);",
                "[-4; 9/2]|[3, 4; 0, 0]|[0; 3; 0; 0]|[0; 0]|");
        Desk.shows("show solve([1/2,1/3;1,0],[1/7;2/5]);show solve([1;2;3],[2;4;6]);", "[2/5; -6/35]|[2]|");
        Desk.shows("show inverse([0,1;1,0]);show inverse(-1/3);show inverse([2,1;7,4]);", "[0, 1; 1, 0]|[-3]|[4, -1; -7, 2]|");
        Desk.shows("show det([0,1,0;0,0,1;1,0,0]);show det([1,2;2,4]);show det(7/3);show det(0);show det([0,2;3,0]);",
                "[1]|[0]|[7/3]|[0]|[-6]|");
        Desk.shows("d=2^1000;show det([1/d/d/d,0;0,2^900]);", "[1/" + java.math.BigInteger.TWO.pow(2100) + "]|");
    }

    private static void moduloPrimes() {
        Desk.shows("show mod([7,-7;1/3,0];5);show mod(-1;2147483647);show mod(2^100;101);show mod(1/3;2);",
                "[2, 3; 2, 0]|[2147483646]|[1]|[1]|");
        Desk.shows("show det([1,2;3,4];2);show det([1,2;3,4];3);show det([0,1;1,0];7);show det([2,1;1,2];3);", "[0]|[1]|[6]|[0]|");
        Desk.shows("show rank([1,2;3,4];2);show rank([6,3;9,12];3);show echelon([1,2;3,4];2);", "[1]|[0]|[1, 0; 0, 0]|");
        Desk.shows("show kernel([1,1;1,1];2);show kernel([3];3);show kernel([1,1,1];3);show kernel([0,1,2];5);",
                "[1, 1]|[1]|[1, 0, 2; 0, 1, 2]|[1, 0, 0; 0, 1, 2]|");
        Desk.shows("show inverse([1,1;0,1];2);show inverse(2;7);show inverse([1,2;3,4];2147483647);",
                "[1, 1; 0, 1]|[4]|[2147483645, 1; 1073741825, 1073741823]|");
        Desk.shows("show solve([2,0;0,2],[1;3];5);show solve([0,1],[4];3);show solve([5],[5];5);show solve([1/2],[1/3];7);",
                "[3; 4]|[0; 1]|[0]|[3]|");
        Desk.shows("show det(3;2);show inverse([1,1;1,2];2);", "[1]|[0, 1; 1, 1]|");
    }

    private static void wholeForms() {
        Desk.shows("show hermite([2,4;3,5]);show hermite([-7]);show hermite([0,0,-4]);show hermite([4;6;9]);",
                "[1, 1; 0, 2]|[7]|[0, 0, 4]|[1; 0; 0]|");
        Desk.shows("show hermite([1,5;0,3]);show hermite([1,-5;0,3]);show hermite([0,2;2,1]);", "[1, 2; 0, 3]|[1, 1; 0, 3]|[2, 1; 0, 2]|");
        Desk.shows("show hermite([2,3,5;4,6,11]);show hermite([2,1;4,2;6,3]);", "[2, 3, 0; 0, 0, 1]|[2, 1; 0, 0; 0, 0]|");
        Desk.shows("show hermite([[4,7;2,6],id(;2)]);", "[2, 1, 1, -1; 0, 5, -1, 2]|");
        Desk.shows("show smith([2,4,4;-6,6,12;10,4,16]);show smith([4,6]);show smith([4;6]);show smith(-3);show smith(0);",
                "[2, 0, 0; 0, 2, 0; 0, 0, 156]|[2, 0]|[2; 0]|[3]|[0]|");
        Desk.shows("show smith([6,0,0;0,10,0;0,0,15]);show smith([1,2;2,4]);show smith([0,4;6,0]);",
                "[1, 0, 0; 0, 30, 0; 0, 0, 30]|[1, 0; 0, 0]|[2, 0; 0, 12]|");
        Desk.shows("show smith([2,0,0;0,3,0]);show smith([2,0;0,3;0,0]);", "[1, 0, 0; 0, 6, 0]|[1, 0; 0, 6; 0, 0]|");
    }

    private static void polynomials() {
        Desk.shows("show charpoly([1,2;3,4]);show charpoly(5);show charpoly(0);show charpoly([1/2,1;0,1/3]);show charpoly(id(;3));",
                "[1, -5, -2]|[1, -5]|[1, 0]|[1, -5/6, 1/6]|[1, -3, 3, -1]|");
        Desk.shows("show charpoly([0,0,-6;1,0,5;0,1,2]);", "[1, -2, -5, 6]|");
        Desk.shows("show minpoly(id(;3));show minpoly(zero(;2,2));show minpoly([0,1;0,0]);show minpoly([2,0;0,3]);show minpoly(1/2);",
                "[1, -1]|[1, 0]|[1, 0, 0]|[1, -5, 6]|[1, -1/2]|");
        Desk.shows("show minpoly([1/2,0,0;0,1/2,0;0,0,1/3]);", "[1, -5/6, 1/6]|");
        Desk.shows("show minpoly(id(;32)*3);show charpoly(zero(;32,32));", "[1, -3]|[1" + ", 0".repeat(32) + "]|");
        Desk.shows("show frobenius(id(;2));show frobenius([2,0;0,3]);show frobenius(7/2);show frobenius([0,1;0,0]);",
                "[1, 0; 0, 1]|[0, -6; 1, 5]|[7/2]|[0, 0; 1, 0]|");
        Desk.shows("show frobenius([2,0,0;0,2,0;0,0,3]);show frobenius([1/2,0,0;0,1/2,1;0,0,1/2]);",
                "[2, 0, 0; 0, 0, -6; 0, 1, 5]|[1/2, 0, 0; 0, 0, -1/4; 0, 1, 1]|");
        Desk.shows("a=[0,-1;1,0];z=zero(;2,2);show frobenius([a,z;z,a]);", "[0, -1, 0, 0; 1, 0, 0, 0; 0, 0, 0, -1; 0, 0, 1, 0]|");
        // a prime of 31 bits makes it nilpotent, the fractions do not
        Desk.shows("p=2147483647;show minpoly([0,p;1,0]);show minpoly([p,0;0,0]);show frobenius([p,0;0,0]);show minpoly([p,0;0,2147483629]);",
                "[1, 0, -2147483647]|[1, -2147483647, 0]|[0, 0; 1, 2147483647]|[1, -4294967276, 4611685975477714963]|");
        Desk.shows("p=2147483647*2147483629*2147483587;show frobenius([p,0;0,0]);show minpoly([1+p,0;0,1]);",
                "[0, 0; 1, 9903519940736477367306812281]|[1, -9903519940736477367306812283, 9903519940736477367306812282]|");
    }

    private static void lattices() {
        Desk.shows("show lll([1,1,1;-1,0,2;3,5,6]);show swaps([1,1,1;-1,0,2;3,5,6]);", "[0, 1, 0; 1, 0, 1; -1, 0, 2]|[2]|");
        Desk.shows("show lll([5]);show lll([-3,4]);show swaps(1/2);show lll([1,0;0,1]);", "[5]|[-3, 4]|[0]|[1, 0; 0, 1]|");
        // halves go to the even number
        Desk.shows("show lll([2,0;1,5]);show lll([2,0;3,5]);show lll([2,0;5,9]);show lll([2,0;-1,5]);show lll([2,0;-3,5]);",
                "[2, 0; 1, 5]|[2, 0; -1, 5]|[2, 0; 1, 9]|[2, 0; -1, 5]|[2, 0; 1, 5]|");
        Desk.shows("show lll([1/2,1/3;1,1/7]);show swaps([1/2,1/3;1,1/7]);", "[1/2, 1/3; 0, -11/21]|[0]|");
        Desk.shows("show lll([201,37;1648,297]);show swaps([201,37;1648,297]);", "[1, 32; 40, 1]|[2]|");
        // at 3/4 just no swap
        Desk.shows("show swaps([2,0,0,0;0,1,1,1]);show swaps([2,0;0,1]);", "[0]|[1]|");
    }
}
