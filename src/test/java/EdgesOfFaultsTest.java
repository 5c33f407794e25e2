import java.math.BigInteger;
import java.util.Random;

/** 5 FAULTS and 6 SHOWN: each sentence that names a boundary case, one by one (faults 1 and 2: EdgesOfWordsTest). */
public final class EdgesOfFaultsTest {
    private static final String[] ALL = {
        "det", "trace", "rank", "rows", "columns", "echelon", "kernel", "inverse", "solve", "mod",
        "hermite", "smith", "charpoly", "minpoly", "frobenius", "lll", "swaps", "id", "zero", "part",
    };
    private static final int[] VALUES = {1, 1, 1, 1, 1, 1, 1, 1, 2, 1, 1, 1, 1, 1, 1, 1, 1, 0, 0, 1};
    private static final int[] FEWEST = {0, 0, 0, 0, 0, 0, 0, 0, 0, 1, 0, 0, 0, 0, 0, 0, 0, 1, 2, 4};
    private static final int[] MOST = {1, 0, 1, 0, 0, 1, 1, 1, 1, 1, 0, 0, 0, 0, 0, 0, 0, 1, 2, 4};
    private static final int STEPS = 2000000;
    private static final String NAMES = "z=zero(;32,32);k=2;o=0;m=[1,2,3;4,5,6];n=[1,2,3,4;5,6,7,8;9,1,2,3];s=[1,2,3;4,5,6;7,8,1];q=[1;2];f=1/2;g=[1,2;2,4];r=[1;1];";

    public static void main(String[] args) {
        inOrderFromTheLeft();
        namesWithoutValue();
        calledThatIsNotCalled();
        calledThatIsNot();
        valueForACalledName();
        howMany();
        aCheckHasNone();
        valueAloneIsOfMatter();
        atTheFirstOneBehind();
        noSuchThing();
        checksThatAreNotTheSame();
        first5Then6();
        first6Then8();
        first8Then7();
        first7ThenWhatComesOut();
        beforeAnySwap();
        ofAPower();
        swaps2000();
        weights2000();
        weightsOfRows();
        weightsOfBoth();
        weightsOfCommon();
        weights500();
        noWeightWithP();
        steps();
        stepsOfPowers();
        stepsOfProducts();
        stepsOfCalls();
        stepsOfNothing();
        eachRunBeginsAt0();
        shownCells();
        pageOf200000();
        Desk.close("EdgesOfFaultsTest");
    }

    private static void inOrderFromTheLeft() {
        Desk.sentence("Then statements are done in order, each word by word, from the left (arguments before their call, but the called name first), up to the first fault");
        new Desk().beyond(3, "show @a;show b;show 1/0;");
        new Desk().beyond(7, "show 1@/0;show a;");
        new Desk().beyond(7, "show 1@/0+a;");
        new Desk().beyond(3, "show @a+1/0;");
        new Desk().beyond(3, "show 1+@a/0;");
        new Desk().beyond(3, "show @a(1/0);");
        new Desk().beyond(7, "show det(1@/0,b);");
        new Desk().beyond(3, "show det(@b,1/0);");
        new Desk().beyond(3, "show id(@b;0);");
        new Desk().beyond(5, "show @id(1;0);");
        new Desk().beyond(7, "show 1+(1@/0)+b;");
        new Desk().beyond(5, "show [1,2]@*[1,2]*b;");
        new Desk().beyond(3, "show [1,2]*@b*[1,2];");
        new Desk().beyond(3, "show -@b;");
        new Desk().beyond(5, "show -[1,2]@*[1,2];");
        new Desk().beyond(3, "show det(1)+rank(2)+@nix(det(1));");
        new Desk().beyond(7, "check 1@/0=b;");
        new Desk().beyond(3, "check @b=1/0;");
        Desk.script("show 1;show 2;show 3/0;show 4;", -93, 20, "[1]|[2]|");
    }

    private static void namesWithoutValue() {
        Desk.sentence("3 a name that has no value, at it");
        new Desk().beyond(3, "show @a;");
        new Desk().beyond(3, "a=@a;");
        new Desk().beyond(3, "a=1;show a+@b;");
        new Desk().beyond(3, "a=1;show a;show @aa;");
        new Desk().within("a=1;show a;");
        Desk desk = Desk.after("a=1;");
        desk.within("show a;");
        desk.scripts.forget();
        desk.beyond(3, "show @a;");
        desk.beyond(3, "b=1;show b;show @a;a=2;");
        desk.beyond(7, "a=1@/0;");
        desk.beyond(3, "show @a;");
    }

    private static void calledThatIsNotCalled() {
        Desk.sentence("3 or a name is called that is not CALLED, at it");
        new Desk().beyond(3, "show @a();");
        new Desk().beyond(3, "a=1;show @a(1);");
        new Desk().beyond(3, "a=1;show @a(;1);");
        new Desk().beyond(3, "show 1+@dets(1);");
        new Desk().beyond(3, "a=1;show @a (nix);");
    }

    private static void calledThatIsNot() {
        Desk.sentence("3 or one that is CALLED is not called, at it");
        for (String name : ALL) {
            new Desk().beyond(3, "show 1+@" + name + ";");
            new Desk().beyond(3, "show @" + name + "*(1);");
            new Desk().beyond(3, "show @" + name + "^1001;");
        }
    }

    private static void valueForACalledName() {
        Desk.sentence("4 a value for a name that is CALLED, at it (ahead of its sum)");
        for (String name : ALL) {
            new Desk().beyond(4, "x=1; @" + name + "=1;");
            new Desk().beyond(4, "@" + name + " = nix/0;");
            new Desk().within(name + "_=1;");
        }
    }

    private static void howMany() {
        Desk.sentence("5 arguments that are not as they must be (how many, how many numbers behind ;), at the called name");
        for (int i = 0; i < ALL.length; i++) {
            for (int values = 0; values <= 3; values++) {
                for (int numbers = 0; numbers <= 6; numbers++) {
                    boolean fits = values == VALUES[i] && numbers >= FEWEST[i] && numbers <= MOST[i];
                    String value = ALL[i].equals("kernel") ? "0" : "1";
                    String number = MOST[i] == 1 && !ALL[i].equals("id") ? "2" : "1";
                    String call = ALL[i] + "(" + list(values, value) + (numbers == 0 ? "" : ";" + list(numbers, number)) + ")";
                    if (fits) {
                        new Desk().within("x=-" + call + ";");
                    } else {
                        new Desk().beyond(5, "x=-@" + call + ";");
                    }
                }
            }
        }
    }

    private static String list(int count, String each) {
        return count == 0 ? "" : each + ("," + each).repeat(count - 1);
    }

    private static void aCheckHasNone() {
        Desk.sentence("(a check has none: unlike shapes are 9)");
        new Desk().beyond(9, "@check [1,1]=1;");
        new Desk().beyond(9, "@check 1=[1;1];");
        new Desk().beyond(9, "x=1; @check zero(;2,3)=zero(;3,2);");
        new Desk().beyond(9, "@check [1,2]=[1;2];");
        new Desk().within("check [1,2]=[1;2]';check zero(;2,3)=zero(;3,2)';");
    }

    private static void valueAloneIsOfMatter() {
        Desk.sentence("6 a number behind ; that may not be so (its value alone is of matter, not how it is told)");
        String noughts = "0".repeat(590);
        new Desk().within("x=id(;" + noughts + "3);x=zero(;" + noughts + "64," + noughts + "1);x=part([1,2];001,01,1,0002);x=mod(1;" + noughts + "7);x=det(1;02147483647);");
        new Desk().beyond(6, "x=id(;@" + noughts + ");");
        new Desk().beyond(6, "x=id(;@" + noughts + "65);");
        new Desk().beyond(6, "x=zero(;@" + noughts + "65,1);");
        new Desk().beyond(6, "x=mod(1;@" + noughts + "9);");
        new Desk().beyond(6, "x=mod(1;@" + noughts + "2147483648);");
        new Desk().within("x=1^" + noughts + "1000;");
        new Desk().beyond(6, "x=1^@" + noughts + "1001;");
    }

    private static void atTheFirstOneBehind() {
        Desk.sentence("(part: any of them), at the first one behind the ;");
        new Desk().beyond(6, "x=part([1,2;3,4];  @1,2,1,3);");
        new Desk().beyond(6, "x=part([1,2;3,4];#;\n@1,1,3,3);");
        new Desk().beyond(6, "x=part(part([1,2;3,4];1,2,1,1);@1,2,1,2);");
        new Desk().beyond(6, "x=zero(; @1, 65);");
        new Desk().beyond(6, "x=solve(1,1;@8);");
        new Desk().beyond(6, "x=det(det(1;2)+det(1;3);@8);");
        new Desk().beyond(6, "x=det(det(1;@9)+det(1;3);8);");
    }

    private static void noSuchThing() {
        Desk.sentence("7 there is no such thing, at the sign (of a power: its ^) or the called name");
        new Desk().beyond(7, "x=1+2@/0;");
        new Desk().beyond(7, "x=2*[1,2;2,4] @^ - 3;");
        new Desk().beyond(7, "x=1+@inverse([1,2;2,4]);");
        new Desk().beyond(7, "x=1+@solve([1,2;2,4],[1;1]);");
        new Desk().beyond(7, "x=1+@kernel([1,2;2,5]);");
        new Desk().beyond(7, "x=1+@mod(1/3;3);");
        new Desk().beyond(7, "x=1+@hermite(1/3);");
        new Desk().beyond(7, "x=1+@smith(1/3);");
        new Desk().beyond(7, "x=1+@lll([1,2;2,4]);");
        new Desk().beyond(7, "x=1+@swaps([1,2;2,4]);");
        new Desk().within("x=2/1;x=[1,2;2,5]^-3;x=inverse([1,2;2,5]);x=solve([1,2;2,4],[1;2]);x=kernel([1,2;2,4]);x=mod(1/3;2);x=hermite(3);x=smith(3);x=lll([1,2;2,5]);");
    }

    private static void checksThatAreNotTheSame() {
        Desk.sentence("9 a check whose values are not the same, at the word check");
        new Desk().beyond(9, "x=1;  @check x=2;");
        new Desk().beyond(9, "@check 1=-1;");
        new Desk().beyond(9, "@check 1/2=1/3;");
        new Desk().beyond(9, "@check 2=1/2;");
        new Desk().beyond(9, "@check [1,2,3]=[1,2,4];");
        new Desk().beyond(9, "@check [1,2;3,4]=[1,2;3,5];");
        new Desk().beyond(9, "@check 2^200=2^200+1;");
        new Desk().beyond(9, "@check 2^200=2^200*2;");
        new Desk().beyond(9, "@check 2^31=2^62;");
        new Desk().beyond(9, "@check 1/2^200=1/(2^200+1);");
        new Desk().beyond(9, "@check 0=1/2^1000;");
        new Desk().beyond(9, "check 1=1;@check 1=2;check 1=1;");
        new Desk().within("check 1=1;check 2/4=1/2;check [1/2,2/2]=[2/4,1];check 2^200=4^100;check 0=-0;");
    }

    private static void first5Then6() {
        Desk.sentence("Of one sign or call: first 5 (all of it), then 6");
        Desk desk = Desk.after(NAMES);
        for (String call : new String[] {"det(m;4)", "inverse(m;4)", "solve(m,s;4)", "det(m;0)", "mod(;4)", "mod(1,1;4)", "rank(1,1;4)", "id(1;0)", "id(;0,0)", "zero(;0)",
            "zero(1;0,0)", "part(m;0,0,0)", "part(m;0,0,0,0,0)", "part(;0,0,0,0)", "part(m,m;0,0,0,0)", "trace(1;0)", "hermite(f;4)"}) {
            desk.beyond(5, "x=@" + call + ";");
        }
        desk.beyond(5, "x=m@^1001;");
        desk.beyond(5, "x=q@^-1001;");
        desk.beyond(6, "x=s^@1001;");
        desk.beyond(6, "x=det(s;@4);");
        desk.beyond(6, "x=solve(m,q;@4);");
    }

    private static void first6Then8() {
        Desk.sentence("then 6, then 8 for rows of frobenius, WEIGHT and STEPS");
        Desk desk = Desk.after(NAMES);
        String all = spend(STEPS);
        desk.beyond(6, all + "x=id(;@0);");
        desk.beyond(6, all + "x=zero(;@65,1);");
        desk.beyond(6, all + "x=part(m;@0,1,1,1);");
        desk.beyond(6, all + "x=mod(m;@4);");
        desk.beyond(6, all + "x=det(s;@4);");
        desk.beyond(6, all + "x=solve(m,q;@1);");
        desk.beyond(6, all + "x=s^@1001;");
        desk.beyond(6, all + "x=g^-@1001;");
        desk.beyond(8, all + "x=@id(;1);");
        desk.beyond(8, all + "x=@zero(;1,1);");
        desk.beyond(8, all + "x=@part(m;1,1,1,1);");
        desk.beyond(8, all + "x=@mod(m;5);");
        desk.beyond(8, all + "x=@det(s;5);");
        desk.beyond(8, all + "x=s@^1000;");
        Desk.sentence("5, then 8 for rows of frobenius, WEIGHT and STEPS");
        desk.beyond(5, all + "x=m@+q;");
        desk.beyond(5, all + "x=m@*q;");
        desk.beyond(5, all + "x=k@/q;");
        desk.beyond(5, all + "x=@[m,s];");
        desk.beyond(5, all + "x=@[m;q];");
        desk.beyond(5, all + "x=@det(m);");
        desk.beyond(5, all + "x=@solve(s,q);");
        desk.beyond(5, all + "x=m@^2;");
        desk.beyond(5, all + "x=@trace(m);");
        desk.beyond(5, all + "x=@frobenius(m);");
        desk.beyond(3, all + "x=@nix;");
        desk.beyond(3, all + "x=@nix(1);");
        desk.beyond(4, all + "@det=1;");
        desk.beyond(9, all + "@check m=s;");
        desk.beyond(5, "d=2^1000;x=@inverse([d*d*d,1]);");
        desk.beyond(5, "d=2^1000;x=@charpoly([d,1]);");
        desk.beyond(5, "x=@frobenius(zero(;10,9));");
    }

    private static void first8Then7() {
        Desk.sentence("then 8 for rows of frobenius, WEIGHT and STEPS, then 7");
        Desk desk = Desk.after(NAMES);
        String all = spend(STEPS);
        desk.beyond(8, all + "x=m@/o;");
        desk.beyond(8, all + "x=@mod(f;2);");
        for (String call : new String[] {"inverse(g)", "inverse(g;5)", "solve(g,r)", "solve(g,r;5)", "kernel(s)", "hermite(f)", "smith(f)", "lll(g)", "swaps(g)", "det(f;2)"}) {
            desk.beyond(8, all + "x=@" + call + ";");
        }
        desk.beyond(8, all + "x=g@^-1;");
        // with steps for just that
        desk.beyond(7, spend(STEPS - 8) + "x=m@/o;");
        desk.beyond(8, spend(STEPS - 7) + "x=m@/o;");
        desk.beyond(7, spend(STEPS - 2) + "x=@mod(f;2);");
        desk.beyond(8, spend(STEPS - 1) + "x=@mod(f;2);");
        desk.beyond(7, spend(STEPS - 10) + "x=@inverse(g);");
        desk.beyond(8, spend(STEPS - 9) + "x=@inverse(g);");
        desk.beyond(7, spend(STEPS - 30) + "x=@kernel(s);");
        desk.beyond(8, spend(STEPS - 29) + "x=@kernel(s);");
        desk.beyond(7, spend(STEPS - 2) + "x=@hermite(f);");
        desk.beyond(8, spend(STEPS - 1) + "x=@hermite(f);");
        desk.beyond(7, spend(STEPS - 10) + "x=@lll(g);");
        desk.beyond(8, spend(STEPS - 9) + "x=@lll(g);");
        // weight: 2 (b + 1), b 999 and 1000
        desk = Desk.after("t=2^998;u=2^999;w=2^999*2^1000;");
        desk.beyond(7, "x=@inverse([t,t;t,t]);");
        desk.beyond(8, "x=@inverse([u,u;u,u]);");
        desk.beyond(7, "x=@solve([t,t;t,t],[1;2]);");
        desk.beyond(8, "x=@solve([u,u;u,u],[1;2]);");
        desk.beyond(7, "x=@kernel([t,0;0,t]);");
        desk.beyond(8, "x=@kernel([u,0;0,u]);");
        desk.beyond(7, "x=@hermite(1/w);");
        desk.beyond(8, "x=@hermite(1/w/2);");
        desk.beyond(7, "x=@smith(1/w);");
        desk.beyond(8, "x=@smith(1/w/2);");
        desk.beyond(7, "x=@lll([w;w]);");
        desk.beyond(8, "x=@lll([w;2*w]);");
        desk.beyond(7, "x=@swaps([t,t;t,t]);");
        desk.beyond(8, "x=@swaps([u,u;u,u]);");
        desk.beyond(7, "x=[t,t;t,t]@^-1;");
        desk.beyond(8, "x=[u,u;u,u]@^-1;");
    }

    private static void first7ThenWhatComesOut() {
        Desk.sentence("then 7, then 8 for what comes out");
        Desk desk = Desk.after("z=zero(;1,64);e=[1" + ",0".repeat(63) + "];");
        desk.beyond(7, "x=@solve(z,e);");
        desk.beyond(8, "x=@solve(z,z);");
        desk.beyond(7, "x=@solve(z,e;3);");
        desk.beyond(8, "x=@solve(z,z;3);");
        desk.beyond(7, "x=@solve(e/3,z;3);");
        desk.beyond(7, "x=@kernel(e/3;3);");
        desk.beyond(8, "x=@kernel(e;3);");
        desk = Desk.after("z=zero(;32,32);o=0;f=1/2;");
        // what is at hand would be too much, too
        desk.beyond(7, "x=[z,z,z,f@/o,z,z];");
        desk.beyond(7, "x=[z,z,z,o,@solve(zero(;1,32),[zero(;1,31),1])];");
        desk.beyond(8, "x=[z,z,z,o,@solve(zero(;1,32),zero(;1,32))];");
    }

    private static void beforeAnySwap() {
        Desk.sentence("7 (for lll and swaps: before any swap)");
        Desk desk = Desk.after("m=" + knapsack(1, 20, 3, 95) + ";");
        desk.within("n=part(m;1,19,1,23);r=part(m;1,1,1,23);");
        for (String name : new String[] {"lll", "swaps"}) {
            desk.beyond(8, "x=@" + name + "(n);");
            desk.beyond(7, "x=@" + name + "([n;r]);");
            desk.beyond(7, "x=@" + name + "([n;0*r]);");
            desk.beyond(7, "x=@" + name + "([2,0;1,0]);");
            desk.beyond(7, "x=@" + name + "([5,0;0,3;0,1]);");
        }
    }

    private static void ofAPower() {
        Desk.sentence("Of a power, at its ^, behind 5 and 6: all of this for the inverse, if there is one, then for each P: STEPS, then what comes out.");
        Desk desk = Desk.after(NAMES + "t=2^998;u=2^999;");
        // the inverse takes 10, each P 18
        desk.beyond(7, spend(STEPS - 10) + "x=g@^-2;");
        desk.beyond(8, spend(STEPS - 9) + "x=g@^-2;");
        desk.beyond(7, spend(STEPS - 10) + "x=g@^-1000;");
        desk.beyond(6, "x=g^-@1001;");
        desk.beyond(6, "x=[u,u;u,u]^-@1001;");
        desk.beyond(8, "x=[u,u;u,u]@^-1000;");
        desk.beyond(7, "x=[t,t;t,t]@^-1000;");
        desk.beyond(8, "x=[t,0;0,t]@^-1000;");
        desk.within("x=[t,0;0,t]^-4;");
        desk.beyond(8, "x=[t,0;0,t]@^-5;");
        desk.within("x=[u,0;0,u]^2;");
        desk.beyond(8, "x=[u*u*u,0;0,u]@^2;");
        desk.within("x=[u*u*u,0;0,u]^1;");
    }

    /** That many rows of random numbers, with the unit rows behind them. */
    private static String knapsack(long seed, int rows, int columns, int bits) {
        Random random = new Random(seed);
        StringBuilder text = new StringBuilder("[[");
        for (int i = 0; i < rows * columns; i++) {
            text.append(i == 0 ? "" : i % columns == 0 ? ";" : ",").append(new BigInteger(bits, random));
        }
        return text + "],id(;" + rows + ")]";
    }

    private static void swaps2000() {
        Desk.sentence("8 more than 2000 swaps, at the called name");
        Desk desk = Desk.after("m=" + knapsack(18, 12, 3, 150) + ";n=" + knapsack(95, 12, 3, 150) + ";");
        Desk.due("2000", desk.told("show swaps(m);"), "1 -1 [2000]|");
        desk.within("x=lll(m);");
        desk.beyond(8, "x=@swaps(n);");
        desk.beyond(8, "x=@lll(n);");
        // each call counts its own
        desk.within("check swaps(m)+swaps(m)=4000;check swaps(lll(m))=0;");
    }

    private static final int[] SIDES = {1, 2, 3, 4, 5, 7, 8, 9, 15, 16, 17, 25, 31, 32};

    /** The least e with 2^e not below k. */
    private static int log(int k) {
        int e = 0;
        for (int power = 1; power < k; power *= 2) {
            e++;
        }
        return e;
    }

    /** A name n, 2 to that many bits less one. */
    private static String number(int bits) {
        return bits > 1000 ? "n=2^1000*2^" + (bits - 1001) + ";" : "n=2^" + (bits - 1) + ";";
    }

    private static void weights2000() {
        Desk.sentence("WEIGHT: k the lesser of rows and columns, L(k) the least e with 2^e not below k: k (b + L(k)) is at most 2000");
        for (int k : SIDES) {
            int most = 2000 / k - log(k);
            String square = "m=id(;" + k + ")*n;";
            String kerneled = k == 1 ? "w=[0,n];" : "w=[part(id(;" + k + ");1," + k + ",1," + (k - 1) + "),zero(;" + k + ",1)]*n;";
            Desk fits = Desk.after(number(most) + square + kerneled);
            Desk heavy = Desk.after(number(most + 1) + square + kerneled);
            for (String call : new String[] {"det(m", "rank(m", "echelon(m", "inverse(m", "kernel(w", "hermite(m", "smith(m", "lll(m", "swaps(m", "solve(m,0*part(m;1," + k + ",1,1)",
                "rank(w", "echelon(w", "hermite(w"}) {
                fits.within("x=" + call + ");");
                heavy.beyond(8, "x=@" + call + ");");
            }
            fits.within("x=m^-1;");
            heavy.beyond(8, "x=m@^-1;");
            // more rows than columns, and more columns
            if (k * (k + 1) <= 1024) {
                fits.within("x=rank([m;0*part(m;1,1,1," + k + ")]);x=smith([m,0*part(m;1," + k + ",1,1)]);x=lll([0*part(m;1," + k + ",1,1),m]);");
                heavy.beyond(8, "x=@rank([m;0*part(m;1,1,1," + k + ")]);");
                heavy.beyond(8, "x=@smith([m,0*part(m;1," + k + ",1,1)]);");
            }
        }
        new Desk().within("x=rank(zero(;64,16));x=echelon(zero(;16,64));x=hermite(zero(;32,32));x=smith(zero(;64,16));");
    }

    private static void weightsOfRows() {
        Desk.sentence("let each row be times the least number above 0 that makes it whole, b the greatest length of all cells then");
        Desk desk = Desk.after("d=2^1000;e=2^999;");
        desk.within("x=rank([1/d,e]);x=echelon([1/d,-e]);x=kernel([1/d,e]);x=rank([1/d/d/d,1/d/2^1]);");
        desk.beyond(8, "x=@rank([1/d,d]);");
        desk.beyond(8, "x=@echelon([1/d,-d]);");
        desk.beyond(8, "x=@kernel([d,1/d]);");
        desk.within("x=rank([1/d/d/d,1/d/2]);x=rank([3/d/d/d,1/d/e]);");
        desk.beyond(8, "x=@rank([1/d/d/d,1/d]);");
        // each row by itself
        desk.within("x=det([1/d/d,0;0,1/e]);x=rank([1/d/d,0;0,1/d/d]);x=echelon([1/d,2/d;5/e,7/e]);x=rank([1/3,1/5;2^995/7,0]);");
        desk.beyond(8, "x=@rank([2^499,1/2^500;0,1]);");
        desk.within("x=rank([2^498,1/2^500;0,1]);");
        desk.within("x=rank([1/3,1/5;2^999/2,0]);");
        desk.beyond(8, "x=@rank([1/3,1/5;2^999,0]);");
    }

    private static void weightsOfBoth() {
        Desk.sentence("(solve: both side by side; inverse and powers below 0: it and id side by side)");
        Desk desk = Desk.after("d=2^1000;u=2^998;w=2^999;");
        // 2 rows and 2 columns side by side, though k of each alone is 1
        desk.within("x=solve([1;0],[u;0]);x=solve([u;0],[1;0]);x=rank([w*d;0]);");
        desk.beyond(8, "x=@solve([1;0],[w;0]);");
        desk.beyond(8, "x=@solve([w;0],[1;0]);");
        desk.within("x=solve([1/2^400;0],[2^598;0]);x=solve([2^598;0],[1/2^400;0]);");
        desk.beyond(8, "x=@solve([1/2^400;0],[2^599;0]);");
        desk.beyond(8, "x=@solve([2^599;0],[1/2^400;0]);");
        // both rows are times 2^998
        desk.within("x=solve([1/u;0],[1/u;0]);x=solve([1/d/d/d,0],1/d/d/d);x=solve([1/w;0],[3/w;0]);");
        desk.within("x=solve(1/2^600,1/3^500);x=solve([1/u,0;0,1/u],[1;1]);");
        desk.beyond(8, "x=@solve([1/w,0;0,1/w],[1;1]);");
        desk.within("x=inverse([1/u,0;0,1]);x=[1/u,0;0,1]^-1;x=inverse(1/d/w);x=inverse(d*w);");
        desk.beyond(8, "x=@inverse([1/w,0;0,1]);");
        desk.beyond(8, "x=[1/w,0;0,1]@^-1;");
        desk.beyond(8, "x=@inverse(1/d/d);");
        desk.beyond(8, "x=@inverse(d*d);");
        Desk.sentence("k the lesser of rows and columns (of both, as they lie side by side)");
        // 33 rows, 31 and 31 columns: k = 33, L(k) = 6, so b is at most 54
        String a = "a=[n,zero(;1,30);zero(;32,31)];b=zero(;33,31);";
        Desk.after(number(54) + a).within("x=solve(a,b);x=rank(a);");
        Desk.after(number(55) + a).beyond(8, "x=@solve(a,b);");
        Desk.after(number(55) + a).within("x=rank(a);");
        // 33 rows, 31 and 1 columns: 32, so b is at most 57
        Desk.after(number(57) + a + "c=zero(;33,1);").within("x=solve(a,c);");
        Desk.after(number(58) + a + "c=zero(;33,1);").beyond(8, "x=@solve(a,c);");
        Desk.after(number(58) + a + "c=zero(;33,1);").within("x=rank(a);");
    }

    private static void weightsOfCommon() {
        Desk.sentence("For the others of them, from hermite to swaps: all cells times the least number above 0 that makes them all whole, b the greatest length of these and of that number");
        Desk desk = Desk.after("d=2^1000;u=2^998;w=2^999;");
        for (String name : new String[] {"lll", "swaps"}) {
            desk.within("x=" + name + "(1/(d*w));x=" + name + "([1/u,0;0,1]);x=" + name + "([1/u,0;0,1/u]);x=" + name + "([u/3,0;0,1]);x=" + name + "([u/2,0;0,1/2]);x=" + name + "([u,0;0,1/1]);");
            desk.beyond(8, "x=@" + name + "(1/(d*d));");
            desk.beyond(8, "x=@" + name + "([1/w,0;0,1/w]);");
            desk.beyond(8, "x=@" + name + "([w/3,0;0,w/3]);");
            desk.beyond(8, "x=@" + name + "([u,0;0,1/2]);");
        }
        for (String name : new String[] {"hermite", "smith"}) {
            desk.beyond(7, "x=@" + name + "([1/u,0;0,1]);");
            desk.beyond(8, "x=@" + name + "([1/w,0;0,1/w]);");
            desk.beyond(7, "x=@" + name + "([u/2,0;0,1/2]);");
            desk.beyond(8, "x=@" + name + "([u,0;0,1/2]);");
        }
    }

    private static void weights500() {
        Desk.sentence("for charpoly, minpoly and frobenius at most 500");
        for (int k : SIDES) {
            int most = 500 / k - log(k);
            Desk fits = Desk.after(number(most) + "m=id(;" + k + ")*n;");
            Desk heavy = Desk.after(number(most + 1) + "m=id(;" + k + ")*n;");
            for (String call : new String[] {"charpoly(m", "minpoly(m", "frobenius(m"}) {
                if (k <= 8 || !call.startsWith("f")) {
                    fits.within("x=" + call + ");x=" + call + "/n);");
                    heavy.beyond(8, "x=@" + call + ");");
                }
            }
            fits.within("x=charpoly(id(;" + k + ")/n);x=minpoly(id(;" + k + ")/n);");
            heavy.beyond(8, "x=@charpoly(id(;" + k + ")/n);");
            heavy.beyond(8, "x=@minpoly(id(;" + k + ")/n);");
        }
        Desk.after("n=2^61/8;").within("x=frobenius(id(;8)/(n/1));");
        Desk.after("n=2^59;").beyond(8, "x=@frobenius(id(;8)/n);");
        Desk.after("n=2^58;").within("x=frobenius(id(;8)/n);");
    }

    private static void noWeightWithP() {
        Desk.sentence("WEIGHT: for det, rank, echelon, kernel, inverse, solve (without p)");
        Desk desk = Desk.after("d=2^1000;m=[d*d*d,1;0,1/2^999];");
        desk.within("x=det(m;7);x=rank(m;7);x=echelon(m;7);x=kernel(0*m;7);x=inverse(m;7);x=solve(m,m;7);x=mod(m;7);x=trace(m);x=rows(m);x=m';x=part(m;1,1,1,1);");
        for (String call : new String[] {"det(m", "rank(m", "echelon(m", "kernel(m", "inverse(m", "solve(m,m", "hermite(m", "smith(m", "charpoly(m", "minpoly(m", "frobenius(m", "lll(m", "swaps(m"}) {
            desk.beyond(8, "x=@" + call + ");");
        }
    }

    /** Statements of so many steps; z has 1024 cells. */
    private static String spend(int steps) {
        int products = steps / 65568;
        int turns = steps % 65568 / 1025;
        return "v=z*z;".repeat(products) + "v=z';".repeat(turns) + "v=1;".repeat(steps % 65568 % 1025);
    }

    /** The marked statement takes so many steps, those of the mark as the last ones. */
    private static void takes(int steps, String marked) {
        Desk desk = Desk.after(NAMES);
        desk.within(spend(STEPS - steps) + marked.replace("@", ""));
        desk.beyond(8, spend(STEPS - steps + 1) + marked);
    }

    private static void steps() {
        Desk.sentence("STEPS: each value that is made takes as many as its arguments have cells, together, and one more. At most 2000000 in a script");
        takes(1, "x=@5;");
        takes(1, "x=@id(;5);");
        takes(1, "x=@id(;32);");
        takes(1, "x=@zero(;5,6);");
        takes(3, "x=@-5;");
        takes(7, "x=@-m;");
        takes(13, "x=m@+m;");
        takes(13, "x=m@-m;");
        takes(20, "x=@-(m+m);");
        takes(8, "x=m@/k;");
        takes(7, "x=m@';");
        takes(14, "x=m'@';");
        takes(13, "x=@[m;m];");
        takes(3 + 4, "x=@[q',k];");
        takes(9, "x=@[1,2;3,4];");
        takes(1 + 1 + 3, "x=1@+1;");
        takes(7, "x=@part(m;1,1,1,1);");
        takes(10, "x=@trace(s);");
        takes(7, "x=@rows(m);");
        takes(7, "x=@columns(m);");
        takes(7, "x=@mod(m;5);");
    }

    private static void stepsOfPowers() {
        Desk.sentence("of a power each P * P and P * A, but not the first P, which is A; of A ^ 0 id, made of A; a power below 0 has its inverse besides, id being none of its arguments");
        takes(10, "x=s@^0;");
        takes(10, "x=s@^-0;");
        takes(57, "x=s@^2;");
        takes(114, "x=s@^3;");
        takes(114, "x=s@^4;");
        takes(171, "x=s@^5;");
        takes(171, "x=s@^8;");
        takes(30, "x=s@^-1;");
        takes(30 + 57, "x=s@^-2;");
        takes(30 + 114, "x=s@^-3;");
        takes(3, "x=k@^2;");
        takes(2, "x=k@^0;");
        takes(2, "x=k@^-1;");
        takes(9 * 3 + 5 * 3, "x=k@^1000;");
        Desk.sentence("of a power but not the first P, which is A: none for A ^ 1");
        Desk desk = Desk.after(NAMES);
        desk.within(spend(STEPS) + "x=s^1;x=k^01;");
    }

    private static void stepsOfProducts() {
        Desk.sentence("all this together times, for A * B (and P * P, P * A), the columns of A (1 if one of them has one cell and it is no product of rows and columns)");
        takes((6 + 12 + 1) * 3, "x=m@*n;");
        takes((9 + 12 + 1) * 3, "x=s@*n;");
        takes(6 + 1 + 1, "x=m@*k;");
        takes(6 + 1 + 1, "x=k@*m;");
        takes(1 + 1 + 1, "x=k@*k;");
        takes(2 + 1 + 1, "x=q@*k;");
        takes(3 + (2 + 1 + 1), "x=q'@*k;");
        takes(3 + 1 * (1 + 2 + 1), "x=k@*q';");
        takes(3 + 2 * (2 + 2 + 1), "x=q'@*q;");
        takes(3 + 1 * (2 + 2 + 1), "x=q@*q';");
        takes((1024 + 1024 + 1) * 32, "x=z@*z;");
        takes(1024 + 1 + 1, "x=z@*k;");
    }

    private static void stepsOfCalls() {
        Desk.sentence("for those that have a WEIGHT, also with p, and the inverse of a power, the lesser of rows and columns of the first argument");
        for (String name : new String[] {"rank", "echelon", "kernel", "hermite", "smith", "lll", "swaps"}) {
            takes(7 * 2, "x=@" + name + "(m);");
            takes(13 * 3, "x=@" + name + "(n);");
        }
        for (String name : new String[] {"rank", "echelon", "kernel"}) {
            takes(7 * 2, "x=@" + name + "(m;7);");
            takes(13 * 3, "x=@" + name + "(n;7);");
        }
        for (String name : new String[] {"det(s)", "det(s;11)", "inverse(s)", "inverse(s;11)", "charpoly(s)", "minpoly(s)", "frobenius(s)"}) {
            takes(10 * 3, "x=@" + name + ";");
        }
        takes((6 + 2 + 1) * 2, "x=@solve(m,q);");
        takes((6 + 2 + 1) * 2, "x=@solve(m,q;7);");
        takes((9 + 12 + 1) * 3, "x=@solve(s,n);");
        takes(2 * (2 + 2 + 1) / 2, "x=@solve(q,q);");
        takes(3, "x=@rank(q);");
        takes(3, "x=@smith(q);");
    }

    private static void stepsOfNothing() {
        Desk.sentence("the value of a name, a row of [ ] and a ( ) none");
        Desk desk = Desk.after(NAMES);
        String all = spend(STEPS);
        desk.within(all + "x=s;x=(s);x=((s));check s=s;check (m)=m;show s;x=(x)^1;");
        desk.beyond(8, all + "x=@1;");
        desk.beyond(8, all + "x=@-s;");
        desk.beyond(8, all + "x=(@1);");
        desk.beyond(8, all + "x=@[s];");
        desk.beyond(8, all + "show @0;");
        desk.beyond(8, all + "check s=@[s];");
    }

    private static void eachRunBeginsAt0() {
        Desk.sentence("(each run() begins at 0)");
        Desk desk = Desk.after(NAMES);
        desk.within(spend(STEPS));
        desk.within(spend(STEPS));
        desk.beyond(8, spend(STEPS) + "x=@1;");
        desk.within(spend(STEPS));
        desk.beyond(8, spend(STEPS - 1) + "x=k@+k;");
        desk.within("x=1+1;");
    }

    private static void shownCells() {
        Desk.sentence("show puts a value on the PAGE: [ and its cells, row by row, with a comma and a blank between cells, a semicolon and a blank between rows, ] and byte 10");
        Desk.shows("show 0;show [1,2;3,4];show [1;2];show [1,2];", "[0]|[1, 2; 3, 4]|[1; 2]|[1, 2]|");
        Desk.sentence("a cell as its upper part in digits (- before it below 0), and, if the lower part is not 1, / and that");
        Desk.shows("show [1/2,-1/2;2/2,-4/2];show -0;show 0/5;show -1/1000000000;show 10^9;show 10^18+1;show -10^27/7;",
                "[1/2, -1/2; 1, -2]|[0]|[0]|[-1/1000000000]|[1000000000]|[1000000000000000001]|[-1000000000000000000000000000/7]|");
        for (int n : new int[] {1, 8, 9, 10, 17, 18, 19, 27, 36, 599, 600}) {
            String nines = "9".repeat(n);
            Desk.shows("show " + nines + ";show " + nines + "+1;show 1/" + nines + ";", "[" + nines + "]|[1" + "0".repeat(n) + "]|[1/" + nines + "]|");
        }
        BigInteger most = BigInteger.TWO.pow(4000).subtract(BigInteger.ONE);
        Desk.shows("d=2^1000;x=d*d*d*2^999;x=x+(x-1);show [x,-x];show 1/x;show -1/x;", "[" + most + ", -" + most + "]|[1/" + most + "]|[-1/" + most + "]|");
    }

    private static void pageOf200000() {
        Desk.sentence("The page has at most 200000 bytes (show beyond: 8, at the word show).");
        Desk desk = Desk.after("n=" + "8".repeat(600) + ";");
        desk.within("show n;".repeat(331));
        Desk.due("length", desk.scripts.length(), 331 * 603);
        // 407 are left
        desk.beyond(8, "  @show " + "7".repeat(405) + ";");
        Desk.due("length", desk.scripts.length(), 331 * 603);
        desk.beyond(8, "@show " + "7".repeat(405) + ";show 1;");
        desk.within("show " + "7".repeat(400) + ";");
        Desk.due("length", desk.scripts.length(), 199996);
        desk.beyond(8, "a=5; @show 10;");
        Desk.due("length", desk.scripts.length(), 199996);
        Desk.due("what is ahead of it is done", desk.scripts.told(0), 2);
        desk.within("show 1;");
        Desk.due("length", desk.scripts.length(), 200000);
        desk.beyond(8, "@show 1;");
        desk.beyond(7, "show 1@/0;");
        desk.within("x=1;check x=1;");
        Desk.due("length", desk.scripts.length(), 200000);
        Desk.due("last bytes", desk.page().substring(199990), "7777]\n[1]\n");
        Desk.due("wipe", desk.scripts.wipe(), 200000);
        desk.within("show n;".repeat(331));
        desk.within("show " + "7".repeat(404) + ";");
        Desk.due("length", desk.scripts.length(), 200000);
    }
}
