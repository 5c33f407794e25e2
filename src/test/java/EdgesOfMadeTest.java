import java.math.BigInteger;

/** 4 WHAT IS MADE: each sentence that names a boundary case, one by one. */
public final class EdgesOfMadeTest {
    public static void main(String[] args) {
        ofOneShape();
        asManyColumnsAsRows();
        oneOfThemHasOneCell();
        dividedByOneCell();
        exchanged();
        powerOfASquare();
        bitsOfAPower();
        powerBelow0();
        power0();
        ids();
        zeros();
        parts();
        traces();
        rowsOf0();
        ranks();
        kernels();
        solutions();
        inverses();
        primes();
        toldFrom0();
        residues();
        hermites();
        cellsAbove();
        factorsToo();
        smiths();
        smithOf0();
        charpolys();
        minpolys();
        frobenius8Rows();
        frobeniusBlocks();
        lllOfOneRow();
        nextWholeNumber();
        ofTwoAsNear();
        atLeast();
        kBecomes();
        swapsAreCounted();
        lllTakesFractions();
        Desk.close("EdgesOfMadeTest");
    }

    private static void ofOneShape() {
        Desk.sentence("A + B, A - B: of one shape, cell by cell.");
        Desk.shows("show [1,2]+[3,4];show [1;2]-[3;4];show -[1,0,-1];show 1+1;show [1,2;3,4]-[1,2;3,4];", "[4, 6]|[-2; -2]|[-1, 0, 1]|[2]|[0, 0; 0, 0]|");
        Desk desk = Desk.after("a=[1,2];b=[1;2];c=[1,2,3];o=1;s=[1,2;3,4];");
        for (String pair : new String[] {"a b", "b a", "a c", "c a", "a o", "o a", "s a", "b s", "s o", "o s"}) {
            desk.beyond(5, "x=" + pair.replace(" ", " @+ ") + ";");
            desk.beyond(5, "x=" + pair.replace(" ", " @- ") + ";");
        }
        desk.within("x=a+a;x=b-b;x=c+c;x=o-o;x=s+s;x=a+b';");
    }

    private static void asManyColumnsAsRows() {
        Desk.sentence("A * B: A has as many columns as B rows: sums of products");
        Desk.shows("show [1,2,3]*[4;5;6];show [1;2]*[3,4];show [1,2;3,4]*[5,6;7,8];show [1/2,1/3]*[2;3];", "[32]|[3, 4; 6, 8]|[19, 22; 43, 50]|[2]|");
        Desk desk = Desk.after("a=[1,2,3;4,5,6];b=[1,2;3,4];");
        desk.within("x=b*a;x=a*a';x=a'*a;x=a'*b;");
        desk.beyond(5, "x=a@*b;");
        desk.beyond(5, "x=a@*a;");
        desk.beyond(5, "x=b@*a';");
        desk.beyond(5, "x=[1,2]@*[1,2];");
    }

    private static void oneOfThemHasOneCell() {
        Desk.sentence("or else one of them has one cell: each cell of the other times that");
        Desk.shows("show 3*[1,2;3,4];show [1,2;3,4]*3;show [1,2]*3;show 3*[1;2];show [3]*[1,2];show [1;2]*[3];show 2*3;",
                "[3, 6; 9, 12]|[3, 6; 9, 12]|[3, 6]|[3; 6]|[3, 6]|[3; 6]|[6]|");
        Desk.shows("show 0*[1,2];show [1/2,3]*(2/3);show (-1)*[0,1];", "[0, 0]|[1/3, 2]|[0, -1]|");
    }

    private static void dividedByOneCell() {
        Desk.sentence("A / b: b has one cell: each cell divided by it.");
        Desk.shows("show [1,2;3,4]/2;show 1/[2];show [3,0]/(-3);show (1/2)/(3/4);", "[1/2, 1; 3/2, 2]|[1/2]|[-1, 0]|[2/3]|");
        new Desk().beyond(5, "x=1@/[1,2];");
        new Desk().beyond(5, "x=[1,2]@/[1;2];");
        new Desk().beyond(5, "x=[1,2;3,4]@/[1,2;3,4];");
        new Desk().beyond(5, "x=[1,2]@/[0,0];");
        new Desk().beyond(7, "x=[1,2]@/0;");
        new Desk().beyond(7, "x=0@/0;");
        new Desk().beyond(7, "x=0@/(1/2-2/4);");
    }

    private static void exchanged() {
        Desk.sentence("A': rows and columns exchanged.");
        Desk.shows("show 5';show [1,2,3]';show [1;2;3]';show [1,2,3;4,5,6]';show [1,2,3;4,5,6]'';", "[5]|[1; 2; 3]|[1, 2, 3]|[1, 4; 2, 5; 3, 6]|[1, 2, 3; 4, 5, 6]|");
        Desk.shows("a=[1/2,3];b=1;show a';c=1/7;show a';", "[1/2; 3]|[1/2; 3]|");
        Desk.shows("show rows(zero(;1,64)');show columns(zero(;64,1)');show rows(zero(;16,64)');", "[64]|[64]|[64]|");
    }

    private static void powerOfASquare() {
        Desk.sentence("A ^ n, A square");
        for (String n : new String[] {"0", "1", "2", "-0", "-1", "-2", "1000", "-1000"}) {
            new Desk().beyond(5, "x=[1,2]@^" + n + ";");
            new Desk().beyond(5, "x=[1;2]@^" + n + ";");
            new Desk().beyond(5, "x=[1,2,3;4,5,6]@^" + n + ";");
            new Desk().within("x=[1,1;0,1]^" + n + ";x=[1]^" + n + ";");
        }
        Desk.sentence("6 a power above 1000, at its number");
        Desk.shows("show 1^1000;show (-1)^-1000;show [1,1;0,1]^1000;show [1,1;0,1]^-1000;show [1,1;0,1]^01000;",
                "[1]|[1]|[1, 1000; 0, 1]|[1, -1000; 0, 1]|[1, 1000; 0, 1]|");
        new Desk().beyond(6, "x=1^@1001;");
        new Desk().beyond(6, "x=1^-@1001;");
        new Desk().beyond(6, "x=1 ^ - @1001;");
        new Desk().beyond(6, "x=1^@" + "9".repeat(600) + ";");
        new Desk().beyond(6, "x=1^-@4294967296;");
        new Desk().beyond(6, "x=1^@4294967297;");
        new Desk().beyond(6, "x=1^@18446744073709551617;");
        new Desk().beyond(6, "x=1^@" + "0".repeat(500) + "2147483648;");
    }

    private static void bitsOfAPower() {
        Desk.sentence("for the bits of n from that below the highest one on down: P becomes P * P, and then, if the bit is 1, P * A");
        Desk desk = Desk.after("f=[1,1;1,0];");
        long a = 1;
        long b = 0;
        for (int n = 1; n <= 70; n++) {
            long next = a + b;
            Desk.due("f^" + n, desk.told("show f^" + n + ";"), "1 -1 [" + next + ", " + a + "; " + a + ", " + b + "]|");
            b = a;
            a = next;
        }
        for (int n : new int[] {127, 128, 255, 256, 511, 512, 513, 999, 1000}) {
            Desk.due("3^" + n, desk.told("show 3^" + n + ";"), "1 -1 [" + BigInteger.valueOf(3).pow(n) + "]|");
            Desk.due("3^-" + n, desk.told("show 3^-" + n + ";"), "1 -1 [1/" + BigInteger.valueOf(3).pow(n) + "]|");
        }
    }

    private static void powerBelow0() {
        Desk.sentence("A ^ -n: the inverse of A, to the n likewise.");
        Desk.shows("show [2,1;1,1]^-1;show [2,1;1,1]^-2;show [1,2;3,4]^-2;show (2/3)^-3;show (-1/2)^-1;",
                "[1, -1; -1, 2]|[2, -3; -3, 5]|[11/2, -5/2; -15/4, 7/4]|[27/8]|[-2]|");
        new Desk().beyond(7, "x=[1,2;2,4]@^-1;");
        new Desk().beyond(7, "x=[1,2;2,4]@^-3;");
        new Desk().beyond(7, "x=0@^-1;");
        new Desk().beyond(7, "x=0 @^ - 1000;");
        new Desk().within("x=[1,2;2,4]^1;x=0^1;x=0^1000;");
    }

    private static void power0() {
        Desk.sentence("A ^ 0, A ^ -0: id (nothing is inverted).");
        Desk.shows("show 5^0;show 5^-0;show 0^0;show 0^-0;show 5^00;show 5^-000;", "[1]|[1]|[1]|[1]|[1]|[1]|");
        Desk.shows("show [1,2;2,4]^0;show [1,2;2,4]^-0;show zero(;3,3)^-0;show [1/2,1/3;1/5,1/7]^0;", "[1, 0; 0, 1]|[1, 0; 0, 1]|[1, 0, 0; 0, 1, 0; 0, 0, 1]|[1, 0; 0, 1]|");
        // too heavy for an inverse
        Desk desk = Desk.after("d=2^1000;a=[d*d*d,d;d,d];");
        desk.beyond(8, "x=a@^-1;");
        desk.within("check a^-0=id(;2);check a^0=id(;2);check id(;32)^0=id(;32);");
    }

    private static void ids() {
        Desk.sentence("id(; n): n rows and columns (id's numbers are 1 .. 64)");
        Desk.shows("show id(;1);show id(;2);show id(;3);show id(;03);", "[1]|[1, 0; 0, 1]|[1, 0, 0; 0, 1, 0; 0, 0, 1]|[1, 0, 0; 0, 1, 0; 0, 0, 1]|");
        new Desk().within("check rows(id(;32))=32;check rank(id(;32))=32;check trace(id(;32))=32;");
        new Desk().beyond(8, "x=@id(;33);");
        new Desk().beyond(8, "x=@id(;64);");
        new Desk().beyond(6, "x=id(;@65);");
        new Desk().beyond(6, "x=id(;@0);");
        new Desk().beyond(6, "x=id(;@00);");
        new Desk().beyond(6, "x=id(;@4294967297);");
        new Desk().beyond(6, "x=id(;@18446744073709551617);");
    }

    private static void zeros() {
        Desk.sentence("zero(; m, n): m rows, n columns of 0 (zero's numbers are 1 .. 64)");
        Desk.shows("show zero(;1,1);show zero(;2,3);show zero(;3,1);", "[0]|[0, 0, 0; 0, 0, 0]|[0; 0; 0]|");
        new Desk().within("x=zero(;64,1);x=zero(;1,64);x=zero(;64,16);x=zero(;16,64);check rows(x)=16;check columns(x)=64;");
        new Desk().beyond(6, "x=zero(;@65,1);");
        new Desk().beyond(6, "x=zero(;@1,65);");
        new Desk().beyond(6, "x=zero(; @0 , 1);");
        new Desk().beyond(6, "x=zero(; @1 , 0);");
        new Desk().beyond(6, "x=zero(;@4294967297,1);");
        new Desk().beyond(6, "x=zero(;@1,4294967297);");
        new Desk().beyond(6, "x=zero(;@65,64);");
        new Desk().beyond(8, "x=@zero(;64,64);");
        new Desk().beyond(8, "x=@zero(;64,17);");
    }

    private static void parts() {
        Desk.sentence("part(A; i, j, k, l): 1 <= i <= j <= rows, 1 <= k <= l <= columns");
        Desk desk = Desk.after("a=[1,2,3,4;5,6,7,8;9,10,11,12];");
        Desk.due("parts", desk.told("show part(a;1,3,1,4);show part(a;1,1,1,1);show part(a;3,3,4,4);show part(a;2,3,2,3);show part(a;1,3,4,4);show part(a;2,2,1,4);"),
                "6 -1 [1, 2, 3, 4; 5, 6, 7, 8; 9, 10, 11, 12]|[1]|[12]|[6, 7; 10, 11]|[4; 8; 12]|[5, 6, 7, 8]|");
        for (String wrong : new String[] {"0,1,1,1", "2,1,1,1", "4,4,1,1", "1,4,1,1", "1,1,0,1", "1,1,2,1", "1,1,5,5", "1,1,1,5", "0,0,0,0", "1,1,0,0",
            "3,2,1,1", "1,3,4,3", "4294967297,1,1,1", "1,4294967297,1,1", "1,1,4294967297,1", "1,1,1,4294967297"}) {
            desk.beyond(6, "x=part(a;@" + wrong + ");");
            desk.beyond(6, "x=part(a; @" + wrong.replace(",", " , ") + ");");
        }
        Desk.due("lower parts of a part", desk.told("show part([1/2,1/3;1/5,4];2,2,2,2);show part([1/2,1/3;1/5,4];1,1,2,2);"), "2 -1 [4]|[1/3]|");
    }

    private static void traces() {
        Desk.sentence("trace(A), A square: the sum of its diagonal. rows(A), columns(A): how many.");
        Desk.shows("show trace(3);show trace([1,9;9,2]);show trace([1/2,0,0;0,1/3,0;0,0,1/6]);show trace([1,2;3,-1]);", "[3]|[3]|[1]|[0]|");
        new Desk().beyond(5, "x=@trace([1,2]);");
        new Desk().beyond(5, "x=@trace([1;2]);");
        Desk.shows("show rows(1);show columns(1);show rows(zero(;64,1));show columns(zero(;1,64));show rows([1,2]);show columns([1;2]);", "[1]|[1]|[64]|[64]|[1]|[1]|");
    }

    private static void rowsOf0() {
        Desk.sentence("ECHELON FORM: rows of 0 are behind all others; the first cell of another row that is not 0 is 1, its column has 0 elsewhere");
        Desk.shows("show echelon([0,0;1,2]);show echelon([0,0,0;0,0,2;0,3,0;0,0,0]);show echelon(0);show echelon(7);show echelon([0,0;0,0]);",
                "[1, 2; 0, 0]|[0, 1, 0; 0, 0, 1; 0, 0, 0; 0, 0, 0]|[0]|[1]|[0, 0; 0, 0]|");
        Desk.shows("show echelon([2,4;1,2]);show echelon([1,2;3,4]);show echelon([2,1,3;4,2,7]);show echelon([0,-2,1]);", "[1, 2; 0, 0]|[1, 0; 0, 1]|[1, 1/2, 0; 0, 0, 1]|[0, 1, -1/2]|");
        Desk.shows("show echelon([0,0;1,2];2);show echelon([2,4;6,8];2);show echelon([3,1;1,2];5);", "[1, 0; 0, 0]|[0, 0; 0, 0]|[1, 2; 0, 0]|");
    }

    private static void ranks() {
        Desk.sentence("rank(A): how many of its rows are not 0.");
        Desk.shows("show rank(0);show rank(1/7);show rank([0,0;0,0]);show rank([1,2;2,4]);show rank([1,2;2,5]);show rank([1;2;3]);show rank(zero(;64,16));show rank(id(;32));",
                "[0]|[1]|[0]|[1]|[2]|[1]|[0]|[32]|");
        Desk.shows("show rank(2;2);show rank(2;3);show rank([1,2;2,5];2);show rank([2,4;6,8];2);show rank(id(;32);2);", "[0]|[1]|[2]|[0]|[32]|");
    }

    private static void kernels() {
        Desk.sentence("kernel(A): the echelon form, without rows of 0, whose rows span all x with A x' = 0 (7: a kernel with a row)");
        Desk.shows("show kernel(0);show kernel([0,0]);show kernel([1,2]);show kernel([1,2;2,4]);show kernel([0,1]);show kernel([1,0]);show kernel([0;0]);",
                "[1]|[1, 0; 0, 1]|[1, -1/2]|[1, -1/2]|[1, 0]|[0, 1]|[1]|");
        new Desk().beyond(7, "x=@kernel(1);");
        new Desk().beyond(7, "x=@kernel([1;0]);");
        new Desk().beyond(7, "x=@kernel([1,2;2,5]);");
        new Desk().beyond(7, "x=@kernel(id(;32));");
        Desk.shows("show kernel(2;2);show kernel([1,2;2,4];7);show kernel([2,2;2,2];2);", "[1]|[1, 3]|[1, 0; 0, 1]|");
        new Desk().beyond(7, "x=@kernel(2;3);");
        new Desk().beyond(7, "x=@kernel([1,2;2,5];2);");
        new Desk().beyond(7, "x=@kernel([1,2;2,5];3);");
    }

    private static void solutions() {
        Desk.sentence("solve(A, B), as many rows in both: the X with A X = B whose rows are 0 but for those of pivots' columns of echelon(A)");
        Desk.shows("show solve(2,3);show solve([0,2],3);show solve([1,1;2,2],[3;6]);show solve([0,0],0);show solve([1;2],[3;6]);show solve(0,0);show solve([0;1],[0;5]);",
                "[3/2]|[0; 3/2]|[3; 0]|[0; 0]|[3]|[0]|[5]|");
        new Desk().beyond(7, "x=@solve(0,1);");
        new Desk().beyond(7, "x=@solve([1,1;2,2],[3;7]);");
        new Desk().beyond(7, "x=@solve([1;2],[3;7]);");
        new Desk().beyond(7, "x=@solve([1,0;0,0],[1,0;0,1]);");
        new Desk().beyond(5, "x=@solve([1,2],[1;2]);");
        new Desk().beyond(5, "x=@solve([1;2],3);");
        Desk.shows("show solve(3,1;7);show solve([2,1],1;2);show solve(2,2;2);", "[5]|[0; 1]|[0]|");
        new Desk().beyond(7, "x=@solve([1,1;2,2],[3;7];2);");
        new Desk().beyond(7, "x=@solve(2,1;2);");
        new Desk().within("x=solve([1,1;2,2],[3;8];2);x=solve(2,1;3);");
    }

    private static void inverses() {
        Desk.sentence("inverse(A), det(A): A square.");
        Desk.shows("show inverse(4);show inverse([0,1;1,0]);show inverse([1,2;3,4]);show det(4);show det([0,1;1,0]);show det([1,2;2,4]);show det(0);show det([1/2,0;0,1/3]);",
                "[1/4]|[0, 1; 1, 0]|[-2, 1; 3/2, -1/2]|[4]|[-1]|[0]|[0]|[1/6]|");
        for (String name : new String[] {"inverse", "det"}) {
            new Desk().beyond(5, "x=@" + name + "([1,2]);");
            new Desk().beyond(5, "x=@" + name + "([1;2]);");
            new Desk().beyond(5, "x=@" + name + "([1,2,3;4,5,6];7);");
        }
        new Desk().beyond(7, "x=@inverse([1,2;2,4]);");
        new Desk().beyond(7, "x=@inverse(0);");
        new Desk().beyond(7, "x=@inverse([1,2;3,4];2);");
        Desk.shows("show inverse([1,2;3,4];3);show det([1,2;3,4];2);show det([1,2;3,4];7);show det(0;7);", "[1, 1; 0, 1]|[0]|[5]|[0]|");
    }

    private static void primes() {
        Desk.sentence("modulo a prime p, 2 .. 2147483647 (6: a p that is no prime of those, at it)");
        Desk desk = Desk.after("a=[1,1;0,1];");
        for (String p : new String[] {"2", "3", "5", "7", "46337", "46349", "65537", "1073741789", "2147483629", "2147483647", "02", "0".repeat(590) + "2147483647"}) {
            desk.within("x=det(a;" + p + ");x=rank(a;" + p + ");x=echelon(a;" + p + ");x=inverse(a;" + p + ");x=solve(a,a;" + p + ");x=kernel(a-a;" + p + ");x=mod(a;" + p + ");");
        }
        for (String p : new String[] {"0", "1", "4", "6", "9", "25", "49", "121", "341", "561", "1105", "2047", "65535", "1373653", "25326001", "2147117569",
            "29341", "294409", "56052361", "118901521", "172947529", "228842209", "2284453", "143168581", "32817151", "116151661", "161304001", "960946321", "746331041",
            "2147483645", "2147483646", "2147483648", "2147483649", "2147483659", "4294967291", "4294967298", "4294967299", "21474836470", "21474836471", "21474836477", "18446744073709551618", "9".repeat(600)}) {
            for (String call : new String[] {"det(a", "rank(a", "echelon(a", "inverse(a", "solve(a,a", "kernel(a-a", "mod(a"}) {
                desk.beyond(6, "x=" + call + ";@" + p + ");");
            }
        }
    }

    private static void toldFrom0() {
        Desk.sentence("each told as 0 .. p - 1");
        Desk.shows("show mod([-1,0,1,2,3,-3];3);show mod([2147483646,2147483647,-1];2147483647);show mod([1,2,3];2);", "[2, 0, 1, 2, 0, 0]|[2147483646, 0, 2147483646]|[1, 0, 1]|");
        Desk.shows("show det(-1;5);show det(5;5);show echelon([1,-1];5);show inverse(-1;5);show solve(1,-1;5);show kernel([1,1];5);", "[4]|[0]|[1, 4]|[4]|[4]|[1, 4]|");
        Desk.shows("show det([0,1;1,0];2);show det([0,1;1,0];3);show kernel([1,1];2);", "[1]|[2]|[1, 1]|");
        Desk.shows("show det(-1;2147483647);show inverse(2;2147483647);show kernel([1,1];2147483647);", "[2147483646]|[1073741824]|[1, 2147483646]|");
    }

    private static void residues() {
        Desk.sentence("mod(A; p): each cell: u / l is the x with l x = u (modulo p) (7: a lower part that p divides)");
        Desk.shows("show mod(1/2;3);show mod([1/2,-1/2;2/3,5];7);show mod(1/2;2147483647);", "[2]|[4, 3; 3, 5]|[1073741824]|");
        for (String call : new String[] {"mod(1/2", "mod([1,1/2]", "mod([1,1/6]", "det(1/2", "rank([1,1/2]", "echelon([1/2,1]", "kernel([1,1/4]", "inverse(3/2",
            "solve(1/2,1", "solve(1,1/2", "solve([1,1;0,1],[1/2;0]"}) {
            new Desk().beyond(7, "x=@" + call + ";2);");
            new Desk().within("x=" + call + ";5);");
        }
        new Desk().beyond(7, "x=@mod(1/2147483647;2147483647);");
        new Desk().within("x=mod(1/2147483646;2147483647);");
    }

    private static void hermites() {
        Desk.sentence("hermite(A), cells whole: the rows not 0 are in front; the first cell of each that is not 0 is above 0, and behind that of the row above");
        Desk.shows("show hermite(0);show hermite(5);show hermite(-5);show hermite([0,0;0,0]);show hermite([0,0;2,4]);show hermite([0,-3]);show hermite([0;0;-3]);",
                "[0]|[5]|[5]|[0, 0; 0, 0]|[2, 4; 0, 0]|[0, 3]|[3; 0; 0]|");
        Desk.shows("show hermite([4,6;6,9]);show hermite([0,2;3,0]);show hermite([2,3;4,6;6,10]);show hermite([4;6]);", "[2, 3; 0, 0]|[3, 0; 0, 2]|[2, 0; 0, 1; 0, 0]|[2; 0]|");
        new Desk().beyond(7, "x=@hermite(1/2);");
        new Desk().beyond(7, "x=@hermite([1,2;3,1/2]);");
        new Desk().within("x=hermite(2/2);x=hermite([1,2;3,4/2]);");
    }

    private static void cellsAbove() {
        Desk.sentence("cells above that are from 0 to less than it");
        for (int above = -9; above <= 9; above++) {
            Desk.shows("show hermite([1," + (above < 0 ? "-" : "") + Math.abs(above) + ";0,3]);", "[1, " + Math.floorMod(above, 3) + "; 0, 3]|");
            Desk.shows("show hermite([1," + (above < 0 ? "-" : "") + Math.abs(above) + ";0,-3]);", "[1, " + Math.floorMod(above, 3) + "; 0, 3]|");
        }
        Desk.shows("show hermite([1,5,7;0,1,9;0,0,4]);show hermite([2,0,5;0,2,5;0,0,5]);show hermite([1,7;0,1]);", "[1, 0, 2; 0, 1, 1; 0, 0, 4]|[2, 0, 0; 0, 2, 0; 0, 0, 5]|[1, 0; 0, 1]|");
    }

    private static void factorsToo() {
        Desk.sentence("(hermite([A, id(; m)]) has the factors, too.)");
        Desk.shows("a=[4,7;2,6];h=hermite([a,id(;2)]);show h;check part(h;1,2,3,4)*a=part(h;1,2,1,2);check hermite(a)=part(h;1,2,1,2);", "[2, 1, 1, -1; 0, 5, -1, 2]|");
        Desk.shows("a=[4;6];h=hermite([a,id(;2)]);show h;check part(h;1,2,2,3)*a=hermite(a);", "[2, 2, -1; 0, 3, -2]|");
    }

    private static void smiths() {
        Desk.sentence("smith(A), cells whole: A's shape, 0 but for the diagonal; there numbers from 0 on, of which each divides the next one");
        Desk.shows("show smith(5);show smith(-5);show smith([2,0;0,3]);show smith([2,0;0,4]);show smith([4,0;0,2]);show smith([-2,0;0,-4]);show smith([6,10,15]);show smith([6;10;15]);",
                "[5]|[5]|[1, 0; 0, 6]|[2, 0; 0, 4]|[2, 0; 0, 4]|[2, 0; 0, 4]|[1, 0, 0]|[1; 0; 0]|");
        Desk.shows("show smith([2,4,4;-6,6,12;10,4,16]);show smith([1,2,3;4,5,6]);show smith([1,2;3,4;5,6]);", "[2, 0, 0; 0, 2, 0; 0, 0, 156]|[1, 0, 0; 0, 3, 0]|[1, 0; 0, 2; 0, 0]|");
        new Desk().beyond(7, "x=@smith(1/2);");
        new Desk().beyond(7, "x=@smith([1,2;3,1/2]);");
        new Desk().within("x=smith(4/2);");
    }

    private static void smithOf0() {
        Desk.sentence("(0 is divided by all)");
        Desk.shows("show smith(0);show smith([0,0;0,0]);show smith([0,0;0,7]);show smith([2,4;4,8]);show smith([0,6,0;0,0,0;4,0,0]);show smith(zero(;2,3));",
                "[0]|[0, 0; 0, 0]|[7, 0; 0, 0]|[2, 0; 0, 0]|[2, 0, 0; 0, 12, 0; 0, 0, 0]|[0, 0, 0; 0, 0, 0]|");
    }

    private static void charpolys() {
        Desk.sentence("charpoly(A), A square: one row: the factors of det(x id - A), that of the highest power first");
        Desk.shows("show charpoly(0);show charpoly(-3/2);show charpoly([1,2;3,4]);show charpoly(id(;3));show charpoly([0,1;0,0]);show columns(charpoly(id(;32)));",
                "[1, 0]|[1, 3/2]|[1, -5, -2]|[1, -3, 3, -1]|[1, 0, 0]|[33]|");
        new Desk().beyond(5, "x=@charpoly([1,2]);");
        new Desk().beyond(5, "x=@charpoly([1;2]);");
    }

    private static void minpolys() {
        Desk.sentence("minpoly(A): likewise the polynomial of least degree, with first factor 1, of which A, put in for x, is 0");
        Desk.shows("show minpoly(0);show minpoly(-3/2);show minpoly(zero(;3,3));show minpoly(id(;32));show minpoly([1,1;0,1]);show minpoly([1,0;0,2]);show minpoly([1/2,0;0,1/2]);",
                "[1, 0]|[1, 3/2]|[1, 0]|[1, -1]|[1, -2, 1]|[1, -3, 2]|[1, -1/2]|");
        new Desk().beyond(5, "x=@minpoly([1,2]);");
        new Desk().beyond(5, "x=@minpoly([1;2]);");
    }

    private static void frobenius8Rows() {
        Desk.sentence("frobenius(A), A square, 8 rows at most (8: rows for frobenius)");
        Desk.shows("show frobenius(5);show rows(frobenius(id(;8)));check frobenius(id(;8))=id(;8);", "[5]|[8]|");
        new Desk().beyond(8, "x=@frobenius(id(;9));");
        new Desk().beyond(8, "x=@frobenius(zero(;9,9));");
        new Desk().beyond(8, "x=@frobenius(id(;32));");
        new Desk().beyond(5, "x=@frobenius(zero(;8,9));");
        new Desk().beyond(5, "x=@frobenius(zero(;9,8));");
        new Desk().beyond(5, "x=@frobenius(zero(;1,2));");
        new Desk().within("x=frobenius(zero(;8,8));");
    }

    private static void frobeniusBlocks() {
        Desk.sentence("polynomials f1, f2, .. of degree 1 at least, each of which divides the next one");
        Desk.shows("show frobenius([2,0;0,2]);show frobenius([2,1;0,2]);show frobenius([1,0;0,2]);show frobenius(zero(;2,2));", "[2, 0; 0, 2]|[0, -4; 1, 4]|[0, -2; 1, 3]|[0, 0; 0, 0]|");
        Desk.shows("show frobenius([1,0,0;0,2,0;0,0,1]);show frobenius([0,0,0;0,0,1;0,0,0]);show frobenius([1/2,1,0;0,1/2,0;0,0,1/2]);",
                "[1, 0, 0; 0, 0, -2; 0, 1, 3]|[0, 0, 0; 0, 0, 0; 0, 1, 0]|[1/2, 0, 0; 0, 0, -1/4; 0, 1, 1]|");
    }

    private static void lllOfOneRow() {
        Desk.sentence("k = 2; while there is a row k");
        Desk.shows("show lll(7);show lll(-1/2);show lll([3,0,4]);show swaps([3,0,4]);show lll([0,0,1]);", "[7]|[-1/2]|[3, 0, 4]|[0]|[0, 0, 1]|");
        Desk.sentence("7 rows for lll that are not independent");
        for (String name : new String[] {"lll", "swaps"}) {
            for (String rows : new String[] {"0", "[0,0,0]", "[1;2]", "[1,2;2,4]", "[1,2;0,0]", "[0,0;1,2]", "[1,2;3,4;5,6]", "[1,0,0;0,1,0;1,1,0]", "[1/2,1/3;3,2]"}) {
                new Desk().beyond(7, "x=@" + name + "(" + rows + ");");
            }
            new Desk().within("x=" + name + "(1);x=" + name + "([1,2;2,5]);x=" + name + "([1,0,0;0,1,0;1,1,1]);x=" + name + "([1/2,1/3;3,1]);");
        }
    }

    private static void nextWholeNumber() {
        Desk.sentence("bk becomes bk less the whole number next to m times bj");
        // m is n / 100: the second row is long enough to stay
        for (int n = -260; n <= 260; n++) {
            if (Math.floorMod(n, 100) == 50) {
                continue;
            }
            int whole = Math.floorDiv(n + 50, 100);
            Desk.shows("show lll([100,0;" + (n < 0 ? "-" : "") + Math.abs(n) + ",1000]);", "[100, 0; " + (n - 100 * whole) + ", 1000]|");
        }
    }

    private static void ofTwoAsNear() {
        Desk.sentence("the whole number next to m (of two as near the even one)");
        int[] halves = {-7, -5, -3, -1, 1, 3, 5, 7};
        int[] even = {-4, -2, -2, 0, 0, 2, 2, 4};
        for (int i = 0; i < halves.length; i++) {
            int n = halves[i];
            Desk.shows("show lll([2,0;" + (n < 0 ? "-" : "") + Math.abs(n) + ",50]);", "[2, 0; " + (n - 2 * even[i]) + ", 50]|");
            Desk.shows("show lll([2^70,0;" + (n < 0 ? "-" : "") + Math.abs(n) + "*2^69,2^80])/2^69;", "[2, 0; " + (n - 2 * even[i]) + ", 2048]|");
            Desk.shows("show lll([1,0;" + (n < 0 ? "-" : "") + Math.abs(n) + "/2,50]);", "[1, 0; " + fraction(n - 2 * even[i]) + ", 50]|");
        }
        // just beside one half
        Desk.shows("t=2^70;show lll([2*t,0;t+1,4*t])-[2*t,0;1-t,4*t];show lll([2*t,0;t-1,4*t])-[2*t,0;t-1,4*t];", "[0, 0; 0, 0]|[0, 0; 0, 0]|");
        Desk.shows("t=2^70;show lll([2*t,0;3*t+1,4*t])-[2*t,0;1-t,4*t];show lll([2*t,0;3*t-1,4*t])-[2*t,0;t-1,4*t];", "[0, 0; 0, 0]|[0, 0; 0, 0]|");
        Desk.shows("t=2^70;show lll([2*t,0;-t-1,4*t])-[2*t,0;t-1,4*t];show lll([2*t,0;1-t,4*t])-[2*t,0;1-t,4*t];", "[0, 0; 0, 0]|[0, 0; 0, 0]|");
    }

    private static String fraction(int halves) {
        return halves % 2 == 0 ? "" + halves / 2 : halves + "/2";
    }

    private static void atLeast() {
        Desk.sentence("if bk* bk* is at least (3/4 - m m) times bk-1* bk-1* k becomes k + 1; otherwise rows k and k - 1 change places");
        Desk.shows("show swaps([2,0,0,0;0,1,1,1]);show swaps([2,0,0,0;0,1,1,0]);show lll([2,0,0,0;0,1,1,0]);", "[0]|[1]|[0, 1, 1, 0; 2, 0, 0, 0]|");
        // m = 1/2: at least one half of that; 50 of 100
        Desk.shows("show swaps([10,0,0;5,7,1]);show swaps([10,0,0;5,7,0]);show swaps([10,0,0;5,5,5]);show swaps([10,0,0;-5,7,1]);", "[0]|[1]|[0]|[0]|");
        Desk.shows("t=2^90;show swaps([2*t,0,0,0;0,t,t,t]);show swaps([2*t,0,0,0;0,t,t,t-1]);", "[0]|[1]|");
        // m = 1/4: 11/16 of 16
        Desk.shows("show swaps([4,0,0,0;1,3,1,1]);show swaps([4,0,0,0;1,3,1,0]);", "[0]|[1]|");
    }

    private static void kBecomes() {
        Desk.sentence("(a SWAP), and k becomes the greater of k - 1 and 2");
        Desk.shows("show lll([5,0,0;0,3,0;0,0,1]);show swaps([5,0,0;0,3,0;0,0,1]);", "[0, 0, 1; 0, 3, 0; 5, 0, 0]|[3]|");
        Desk.shows("show lll([1,1,1;-1,0,2;3,5,6]);show swaps([1,1,1;-1,0,2;3,5,6]);", "[0, 1, 0; 1, 0, 1; -1, 0, 2]|[2]|");
        Desk.shows("show lll([8,0,0,0;0,4,0,0;0,0,2,0;0,0,0,1]);show swaps([8,0,0,0;0,4,0,0;0,0,2,0;0,0,0,1]);", "[0, 0, 0, 1; 0, 0, 2, 0; 0, 4, 0, 0; 8, 0, 0, 0]|[6]|");
    }

    private static void swapsAreCounted() {
        Desk.sentence("swaps(A): how many swaps there were.");
        Desk.shows("show swaps(1);show swaps(id(;5));show swaps([1,0;0,1]);show swaps([2,0;0,1]);show swaps([201,37;1648,297]);", "[0]|[0]|[0]|[1]|[2]|");
    }

    private static void lllTakesFractions() {
        Desk.sentence("lll and swaps take fractions");
        Desk.shows("show lll([1/2,1/3;1,1/7]);show lll([5/7,0,0;0,3/7,0;0,0,1/7]);show swaps([5/7,0,0;0,3/7,0;0,0,1/7]);",
                "[1/2, 1/3; 0, -11/21]|[0, 0, 1/7; 0, 3/7, 0; 5/7, 0, 0]|[3]|");
    }
}
