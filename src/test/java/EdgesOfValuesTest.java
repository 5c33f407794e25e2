/** 3 VALUES: each sentence that names a boundary case, one by one. */
public final class EdgesOfValuesTest {
    /** x has 4000 bits, y 3961; h is 2^2000. */
    private static final String LONG = "d=2^1000;h=d*d;x=d*h*2^999;y=d*h*2^960;";
    /** m has 160 cells of 1, e one cell of 1; so a has COMMON, one cell of 124 limbs and 159 of 125: 20000. */
    private static final String WIDE = LONG + "m=" + ones(10, 1) + "*" + ones(1, 16) + ";"
            + "e=[1" + ";0".repeat(9) + "]*[1" + ",0".repeat(15) + "];";
    private static final String WIDEST = WIDE + "a=y*m+(x-y)*(m-e);";

    public static void main(String[] args) {
        rows();
        columns();
        cells();
        fractions();
        lengthOf0();
        commonOf4000Bits();
        cellsOf4000Bits();
        cellsTimesCommon();
        whatIsWorkedOutWithin();
        limbsOf20000();
        limbsOfEachKind();
        names200();
        limbsOfNames();
        cellsOfNames();
        whatItHadBefore();
        cellsAtHand();
        eachTimeThatOneIsTold();
        asSoonAsTheResultIsThere();
        eachByItselfTillItsBracket();
        firstOfACheck();
        powersAtHand();
        limbsAtHand();
        latestValue();
        aNumberHasOneCell();
        numbersBehind();
        putTogether();
        Desk.close("EdgesOfValuesTest");
    }

    private static String ones(int rows, int columns) {
        String row = "1" + ",1".repeat(columns - 1);
        return "[" + row + (";" + row).repeat(rows - 1) + "]";
    }

    private static void rows() {
        Desk.sentence("A VALUE is a matrix: 1 .. 64 ROWS");
        Desk desk = Desk.after("z=zero(;32,1);y=zero(;63,1);");
        desk.within("a=" + ones(1, 1) + ";a=" + ones(64, 1) + ";a=zero(;64,1);a=zero(;1,64)';a=[z;z];a=[y;0];");
        desk.beyond(8, "a=@" + ones(65, 1) + ";");
        desk.beyond(8, "a=@[z;z;0];");
        desk.beyond(8, "a=@[y;0;0];");
        desk.beyond(6, "a=zero(;@65,1);");
        desk.beyond(6, "a=zero(;@0,1);");
    }

    private static void columns() {
        Desk.sentence("1 .. 64 COLUMNS");
        Desk desk = Desk.after("z=zero(;1,32);y=zero(;1,63);");
        desk.within("a=" + ones(1, 64) + ";a=zero(;1,64);a=zero(;64,1)';a=[z,z];a=[y,0];");
        desk.beyond(8, "a=@" + ones(1, 65) + ";");
        desk.beyond(8, "a=@[z,z,0];");
        desk.beyond(8, "a=@[y,0,0];");
        desk.beyond(6, "a=zero(;@1,65);");
        desk.beyond(6, "a=zero(;@1,0);");
    }

    private static void cells() {
        Desk.sentence("at most 1024 CELLS");
        // 1025 is 25 * 41
        Desk desk = Desk.after("u=zero(;25,1);v=zero(;1,41);w=zero(;25,40);s=zero(;16,63);t=zero(;16,1);k=[id(;16),zero(;16,25)];");
        desk.within("a=zero(;32,32);a=zero(;16,64);a=zero(;64,16);a=id(;32);");
        desk.beyond(8, "a=@zero(;25,41);");
        desk.beyond(8, "a=@zero(;41,25);");
        desk.beyond(8, "a=@zero(;64,64);");
        desk.beyond(8, "a=@id(;33);");
        desk.within("a=zero(;32,1)*zero(;1,32);a=zero(;64,1)*zero(;1,16);a=zero(;16,1)*zero(;1,64);");
        desk.beyond(8, "a=u@*v;");
        desk.beyond(8, "a=v'@*u';");
        desk.within("a=[s,t];a=[s';t'];");
        desk.beyond(8, "a=@[w,u];");
        desk.beyond(8, "a=@[w';u'];");
        desk.within("a=kernel(zero(;1,32));a=kernel(zero(;1,32);7);");
        desk.beyond(8, "a=@kernel(k);");
        desk.beyond(8, "a=@kernel(k;7);");
        desk.within("a=solve(zero(;1,32),zero(;1,32));a=solve(zero(;1,16),zero(;1,64);7);a=solve(zero(;1,64),zero(;1,16));");
        desk.beyond(8, "a=@solve(u',v);");
        desk.beyond(8, "a=@solve(v,u';5);");
    }

    private static void fractions() {
        Desk.sentence("each a FRACTION: a whole number over one above 0, in least terms");
        Desk.shows("show 6/4;show 4/6;show 6/3;show 0/7;show 0/(-7);show -6/4;show 6/(-4);show -6/(-4);show 2/(1/3);",
                "[3/2]|[2/3]|[2]|[0]|[0]|[-3/2]|[-3/2]|[3/2]|[6]|");
        Desk.shows("show [2/4,3/9;5/5,0/3];show [1/2,1/3]*6;show 1/6+1/3;show 1/2-1/2;", "[1/2, 1/3; 1, 0]|[3, 2]|[1/2]|[0]|");
        Desk.shows("show 2^64/2^63;show 2^63/2^64;show (2^31-1)/(2^62-1);", "[2]|[1/2]|[1/2147483649]|");
        new Desk().within("check 2/4=1/2;check -(1/2)=1/(-2);check 0=-0;check 0/3=0/5;");
    }

    private static void lengthOf0() {
        Desk.sentence("The LENGTH of a whole number is how many bits its size has (0 of 0).");
        String[] values = {"0", "1", "-1", "2^32-1", "1-2^32", "2^32", "-2^32", "2^64-1", "2^64", "[0,0;0,0]", "zero(;32,32)", "id(;32)"};
        int[] limbs = {1, 2, 2, 2, 2, 3, 3, 3, 4, 1, 1, 33};
        for (int i = 0; i < values.length; i++) {
            Desk desk = Desk.after("a=" + values[i] + ";");
            Desk.due("limbs of " + values[i], desk.scripts.told(1), limbs[i]);
        }
    }

    private static void commonOf4000Bits() {
        Desk.sentence("COMMON has at most 4000 bits");
        Desk desk = Desk.after(LONG);
        desk.within("a=1/x;a=-1/x;a=[1/x,0];a=1/(x+(x-1));a=[1/x,1/2];a=1/x-1/2;a=1/h/(d*2^999);a=(1/d)*(1/d/d/2^999);a=(1/(d*2^333))^3;");
        desk.beyond(8, "a=1/x@/2;");
        desk.beyond(8, "a=[1,2;3,4]/x@/2;");
        desk.beyond(8, "a=1/x@+1/3;");
        desk.beyond(8, "a=1/x@-1/3;");
        desk.beyond(8, "a=1/3@+1/x;");
        desk.beyond(8, "a=@[1/x,1/3];");
        desk.beyond(8, "a=@[1/3;1/x];");
        desk.beyond(8, "a=1/h@*(1/h);");
        desk.beyond(8, "a=[1/h,0]@*(1/h);");
        desk.beyond(8, "a=[1/h,0]@*[1/h;0];");
        desk.beyond(8, "a=(1/h)@^2;");
        desk.beyond(8, "a=2/(3*h)@^2;");
        // COMMON of what was made before is of no matter
        desk.within("a=1/x;a=[1/3,2;3,4];a=1/x;a=[1,1/x];a=[1/7,1/11];a=1/x;a=1/3+1/5;a=1/x;a=2/3;a=1/x;a=zero(;2,2);a=1/x;a=id(;2);a=1/x;a=5;");
        desk.within("a=det([1/d/2^999,0;0,1/h]);a=det([1/(h-1),0;0,1/(h-1)]);");
        desk.beyond(8, "a=@det([1/h,0;0,1/h]);");
    }

    private static void cellsOf4000Bits() {
        Desk.sentence("each cell times COMMON has at most 4000 bits");
        Desk desk = Desk.after(LONG + "n=[0,h-1,0;0,0,h;0,0,0];l=[0,h,0;0,0,h;0,0,0];");
        desk.within("a=x;a=-x;a=x+(x-1);a=-x-(x-1);a=x-(1-x);a=[x,-x];a=[1,0;0,x];a=x';a=x^1;a=part([x,0];1,1,1,1);a=trace([x,0;0,x-1]);");
        desk.beyond(8, "a=x@+x;");
        desk.beyond(8, "a=-x@-x;");
        desk.beyond(8, "a=[1,x]@+[1,x];");
        desk.beyond(8, "a=x@-(-x);");
        desk.beyond(8, "a=@trace([x,0;0,x]);");
        desk.within("a=h*(h-1);a=-h*(h-1);a=[h,1]*(h-1);a=(h-1)*[h;1];a=[h,0]*[h-1;0];a=h/(1/(h-1));");
        desk.beyond(8, "a=h@*h;");
        desk.beyond(8, "a=(-h)@*h;");
        desk.beyond(8, "a=[h,1]@*h;");
        desk.beyond(8, "a=h@*[h;1];");
        desk.beyond(8, "a=[h,0]@*[h;0];");
        desk.beyond(8, "a=[h,h-1]@*[h-1;h];");
        desk.beyond(8, "a=h@/(1/h);");
        desk.within("a=(d*2^333)^3;a=(2^999*d)^2;a=(-2^999*d)^2;a=15^1000;");
        desk.beyond(8, "a=(2^1000*d)@^2;");
        desk.beyond(8, "a=16@^1000;");
        Desk.sentence("P becomes P * P, and then, if the bit is 1, P * A (each P as a value of its own)");
        Desk.due("a P of 4000 bits, then 0", desk.told("show n^3;"), "1 -1 [0, 0, 0; 0, 0, 0; 0, 0, 0]|");
        desk.beyond(8, "show l@^3;");
    }

    private static void cellsTimesCommon() {
        Desk.sentence("COMMON of a value is the least number above 0 that makes all its cells whole");
        Desk desk = Desk.after(LONG);
        desk.within("a=[x/2,1/2];a=[x-1,1/1];a=[x/6,1/6];a=x/2+1/2;a=[x/2;1/2];");
        desk.beyond(8, "a=@[x,1/2];");
        desk.beyond(8, "a=@[1/2;x];");
        desk.beyond(8, "a=x@+1/2;");
        desk.beyond(8, "a=x/3@+x;");
        desk.within("a=[x/4,1/6];");
        desk.beyond(8, "a=@[x/2,1/6];");
        desk = Desk.after("a=[1/6,1/4];");
        Desk.due("COMMON 12, 2, 3", desk.scripts.told(1), 3);
        desk.within("a=[1/2^20,1/3^20];");
        Desk.due("COMMON of 52 bits, 32, 20", desk.scripts.told(1), 4);
    }

    private static void whatIsWorkedOutWithin() {
        Desk.sentence("What is worked out within has no bounds but these.");
        Desk desk = Desk.after(LONG);
        desk.within("check x/(x+1)*((x+1)/x)=1;check (x+1)/x-1/x=1;check x*(1/x)=1;check [x,x]*[x;-x]=0;check [1/x,1/x]*[1/x;-1/x]=0;");
        desk.within("check x/x=1;check (x/3)/(x/5)=5/3;check [x-1,1-x]/(x-1)=[1,-1];");
    }

    private static void limbsOf20000() {
        Desk.sentence("The LIMBS of a value are the lengths of COMMON and of all cells times COMMON, each in parts of 32 bits (rounded up): at most 20000.");
        Desk desk = Desk.after(WIDEST);
        int all = desk.scripts.told(1);
        desk.within("a=0;");
        Desk.due("limbs of a", all - desk.scripts.told(1), 20000 - 1);
        desk.within("a=y*m+(x-y)*(m-e);");
        desk.beyond(8, "a=y*m+(x-y)@*m;");
        desk.beyond(8, "a=a@+(x-y)*e;");
        desk.beyond(8, "a=a@-(y-x)*e;");
        desk.beyond(8, "a=x@*m;");
        desk.beyond(8, "a=m@*x;");
        desk.within("a=-a;a=a';a=-a';a=a*1;a=a/1;a=[a];");
        desk.within("check -(-a)=a;check a''=a;check a+0*m=a;check a-0*m=a;");
    }

    private static void limbsOfEachKind() {
        Desk.sentence("8 too much: limbs of a value (of a product, [ ], and a call)");
        Desk desk = Desk.after(LONG + "f=[y" + ",x".repeat(15) + "];o=[" + "x,".repeat(15) + "x];g=[o;o;o;o;o;o;o;o;o];p=" + ones(10, 1) + ";");
        Desk.due("limbs of d, h, x, y, f, o, g and p", desk.scripts.told(1), 33 + 64 + 126 + 125 + 2000 + 2001 + 18001 + 11);
        desk.within("a=[f;g]*0;");
        desk.beyond(8, "a=@[o;g]*0;");
        desk.within("a=part(p;1,9,1,1)*o*0;a=p*f*0;");
        desk.beyond(8, "a=p@*o*0;");
        // an inverse of 32 rows and columns of long numbers, and one that is smaller
        desk = new Desk();
        desk.within("a=inverse(" + hilbert(12) + ");show rows(a);");
        desk = Desk.after("a=" + scattered(32, 3) + ";b=" + scattered(20, 3) + ";");
        desk.within("c=inverse(b);c=b^-1;");
        desk.beyond(8, "c=@inverse(a*2^50+id(;32));");
        desk.beyond(8, "c=(a*2^50+id(;32))@^-1;");
        desk.beyond(8, "c=(a*2^50+id(;32))@^-2;");
        desk.beyond(8, "c=@solve(a*2^50+id(;32),id(;32));");
    }

    private static String hilbert(int side) {
        StringBuilder text = new StringBuilder("[");
        for (int i = 0; i < side * side; i++) {
            text.append(i == 0 ? "" : i % side == 0 ? ";" : ",").append("1/").append(1 + i / side + i % side);
        }
        return text + "]";
    }

    /** Small numbers that follow no simple rule. */
    private static String scattered(int side, int most) {
        StringBuilder text = new StringBuilder("[");
        long seed = 12345;
        for (int i = 0; i < side * side; i++) {
            seed = (seed * 1103515245 + 12345) % 2147483648L;
            text.append(i == 0 ? "" : i % side == 0 ? ";" : ",").append(seed >> 16 & most);
        }
        return text + "]";
    }

    private static String namesUpTo(int count) {
        StringBuilder text = new StringBuilder();
        for (int i = 1; i <= count; i++) {
            text.append("n").append(i).append("=0;");
        }
        return text.toString();
    }

    private static void names200() {
        Desk.sentence("At most 200 names have values (8 at the name that gets a value, behind its sum: names, one more only if it had no value)");
        Desk desk = Desk.after(namesUpTo(199));
        desk.within("n200=0;");
        Desk.due("names", desk.scripts.told(0), 200);
        desk.beyond(8, "@n201=0;");
        desk.beyond(8, "show 1; @n=0;");
        desk.beyond(3, "n201=@n201;");
        desk.beyond(7, "n201=1@/0;");
        desk.beyond(4, "@det=0;");
        desk.within("n1=1;n200=2;n100=3;n1=n1+n200+n100;check n1=6;");
        Desk.due("names", desk.scripts.told(0), 200);
        desk = Desk.after("");
        desk.beyond(8, namesUpTo(200) + "@m=0;");
        Desk.due("those before it stay", desk.scripts.told(0) + " " + desk.scripts.told(2), "200 200");
    }

    private static void limbsOfNames() {
        Desk.sentence("with at most 30000 limbs together");
        Desk desk = Desk.after(WIDEST + "b=part(a;1,4,1,16)+(y-x)*part(e;1,4,1,16)*0;d=0;h=0;m=0;e=0;");
        // x and y have 249 limbs and 2 of COMMON; a 20000; the four 4 in all
        Desk.due("limbs", desk.scripts.told(1), 126 + 125 + 4 + 20000 + (1 + 124 + 63 * 125));
        int left = 30000 - desk.scripts.told(1);
        Desk.due("left", left, 1745);
        desk.within("c=x*" + ones(1, 13) + ";");
        Desk.due("left", 30000 - desk.scripts.told(1), 1745 - 1 - 13 * 125);
        // 119 are left: COMMON and 117 limbs, COMMON
        desk.within("f=2^1000*2^1000*2^1000*2^743;");
        Desk.due("left", 30000 - desk.scripts.told(1), 1);
        desk.beyond(8, "@g=1;");
        desk.within("g=0;");
        Desk.due("limbs", desk.scripts.told(1), 30000);
        desk.beyond(8, "@i=0;");
        desk.beyond(8, "@g=1;");
        desk.beyond(8, "@f=f*2;");
        desk.within("f=f-1;f=f+1;g=0;a=-a;");
    }

    private static void cellsOfNames() {
        Desk.sentence("and 20000 cells together");
        StringBuilder text = new StringBuilder();
        for (int i = 0; i < 19; i++) {
            text.append("n").append(i).append("=zero(;32,32);");
        }
        Desk desk = Desk.after(text + "a=zero(;17,31);b=zero(;1,16);");
        desk.within("c=zero(;1,1);");
        desk.beyond(8, "@e=1;");
        desk.beyond(8, "@c=[1,1];");
        desk.within("c=1;b=[b];n5=n6;");
        desk.beyond(8, "@b=[b,0];");
        desk.within("b=zero(;1,15);e=1;");
        desk.beyond(8, "@f=0;");
    }

    private static void whatItHadBefore() {
        Desk.sentence("what it had before counts no more");
        Desk desk = Desk.after(WIDEST);
        desk.within("a=-a;a=a*(-1);");
        desk.beyond(8, "@b=a;");
        desk.within("a=0;b=y*m+(x-y)*(m-e);");
        desk.beyond(8, "@a=b;");
        desk.beyond(8, "@c=b;");
        Desk.due("b is there alone", desk.told("show a;show rows(b);"), "2 -1 [0]|[10]|");
    }

    private static void cellsAtHand() {
        Desk.sentence("AT HAND: they have at most 4096 cells together (8 at the number, at the name, at the sign, [ or called name)");
        Desk desk = Desk.after("z=zero(;32,32);t=zero(;31,33);o=0;u=zero(;32,1);v=zero(;1,32);");
        desk.within("a=z+(z+(z+z));");
        desk.beyond(8, "a=z+(z+(z+(z+@1)));");
        desk.beyond(8, "a=z+(z+(z+(z+@o)));");
        desk.beyond(8, "a=o*(z+(z+(z+@z)));");
        desk.beyond(8, "a=1*(z+(z+(z+@z)));");
        // t has a cell less than z
        desk.beyond(8, "a=[o,o,z,z,z,@t];");
        desk.beyond(5, "a=@[o,z,z,z,t];");
        desk.beyond(8, "a=[z,z,z,t,1,@1];");
        desk.beyond(5, "a=@[z,z,z,t,1];");
        desk.beyond(8, "a=[z,z,z,t,o,@id(;1)];");
        desk.beyond(5, "a=@[z,z,z,t,id(;1)];");
        desk.beyond(8, "a=[z,z,z,1,@zero(;32,32)];");
        desk.beyond(5, "a=@[z,z,z,1,zero(;31,33)];");
        desk.beyond(8, "a=[z,z,z,1,u@*v];");
        desk.beyond(5, "a=@[z,z,t,1,u*v];");
        desk.beyond(8, "a=[z,z,z,1,@kernel(v)];");
        desk.beyond(5, "a=@[z,z,t,1,kernel(v)];");
        desk.beyond(8, "a=[z,z,z,1,@solve(v,v)];");
        desk.beyond(5, "a=@[z,z,t,1,solve(v,v;3)];");
        desk.beyond(8, "a=[z,z,z,1,@solve(v,v;3)];");
    }

    private static void eachTimeThatOneIsTold() {
        Desk.sentence("the values of names (each time that one is told)");
        Desk desk = Desk.after("z=zero(;32,32);");
        desk.beyond(8, "a=[z,z,z,z,@z];");
        desk.beyond(8, "a=@[z,z,z,z];");
        desk.beyond(8, "a=z*(z*(z*(z*@z)));");
        desk.within("a=z*(z*(z*z));");
        desk.within("a=z*z*z*z*z*z*z;");
    }

    private static void asSoonAsTheResultIsThere() {
        Desk.sentence("arguments have gone into a result as soon as it is there");
        Desk desk = Desk.after("z=zero(;32,32);v=zero(;1,32);u=v';");
        desk.within("a=z+(z+(z+z'));a=z+(z+(z-z''));a=z+(z+(z+part(z;1,32,1,32)));a=z+(z+(z+mod(z;2)));a=z+(z+(z+(-z)));");
        desk.within("a=z+(z+z*z);a=z+(z+(z+echelon(z)));a=z+(z+z/2);a=z+(z+(z+hermite(z)));");
        desk.within("a=z+(z+(z+[z]));a=z+(z+u*v);a=z+(u*v+(u*v+u*v));");
        desk.beyond(8, "a=z+(z+(z+(z+@u*v)));");
        desk.beyond(8, "a=z+(z+(z+(u*v+@1)));");
        desk.beyond(8, "a=z+(z+(z+(rank(z)+@z)));");
        desk.within("a=z+(z+z*rank(z));");
    }

    private static void eachByItselfTillItsBracket() {
        Desk.sentence("the values within [ ] each by itself, till its ]");
        Desk desk = Desk.after("z=zero(;32,32);h=zero(;16,32);q=zero(;1,64);");
        desk.within("a=z*(z*(z*[h;h]));");
        desk.beyond(8, "a=z*(z*(z*[h,h,@1]));");
        desk.beyond(8, "a=z*(z*(z*[h;h;@1]));");
        desk.beyond(8, "a=@[z,z,z,z];");
        desk.beyond(8, "a=[@[z,z],z,z];");
        desk.within("a=[part(z;1,16,1,32);part(z;1,16,1,32)];");
        Desk.due("4096 numbers", new Desk().run("a=[" + "1,".repeat(4095) + "1];"), -92);
        new Desk().beyond(8, "a=@[" + "1,".repeat(4095) + "1];");
        new Desk().beyond(8, "a=[" + "1,".repeat(4095) + "1,@1];");
        new Desk().beyond(8, "a=[" + "1;".repeat(4095) + "1;@1];");
        new Desk().beyond(5, "a=@det(" + "1,".repeat(4095) + "1);");
        new Desk().beyond(8, "a=det(" + "1,".repeat(4095) + "1,@1);");
    }

    private static void firstOfACheck() {
        Desk.sentence("the first value of a check till its end");
        Desk desk = Desk.after("z=zero(;32,32);o=0;");
        desk.within("check z=z*(z*z);");
        desk.beyond(8, "check z=z*(z*(z*@z));");
        desk.beyond(8, "check z=z*(z*(z*@1));");
        desk.within("check z*(z*(z*z))=z;");
        desk.beyond(8, "check o=z*(z*(z*@z));");
        desk.within("check z=z;check z=z*(z*z);");
    }

    private static void powersAtHand() {
        Desk.sentence("of a power its result alone counts");
        Desk desk = Desk.after("z=zero(;32,32);i=id(;32);");
        desk.within("a=z+(z+(z+z^7));a=z+(z+(z+i^-7));a=z+(z+(z+z^0));a=z+(z+(z+z^-0));a=z+(z+(z+z^1));");
        desk.beyond(8, "a=1*(z+(z+(z+@z^7)));");
        desk.beyond(8, "a=z+(z+(z+(z^7+@1)));");
    }

    private static void limbsAtHand() {
        Desk.sentence("and 40000 limbs together");
        Desk desk = Desk.after(WIDEST + "b=y*m+(x-y)*(m-e)-a;");
        desk.within("check a=a;b=a-a;b=a+0*m-a;");
        desk.beyond(8, "b=[a,a,@0];");
        desk.beyond(8, "check a=a+@0;");
        desk.beyond(8, "b=a+(a-@b);");
        desk.beyond(8, "b=[a,a,@zero(;10,1)];");
        desk.beyond(8, "b=@[a,a];");
        // a has 20000, p * q 19841, f 159 and g 160
        String more = "q=[" + "y,".repeat(15) + "y];p=" + ones(10, 1) + ";f=[x" + ",1".repeat(33) + "];g=[f,1];";
        desk = Desk.after(WIDEST + more);
        desk.beyond(5, "b=@[a,f,p*q];");
        desk.beyond(8, "b=[a,g,p@*q];");
        // put together: 1/x and 158 times 1, which have 126 limbs and 2 each, become 19876
        String row = ",1".repeat(52);
        String together = "[1/x" + row + ";1" + row + ";1" + row + "]";
        desk = Desk.after(WIDEST + "f=d*h*2^935;");
        desk.beyond(5, "b=@[a,f," + together + "];");
        desk.beyond(8, "b=[a,y,@" + together + "];");
        Desk.sentence("AT HAND, limbs: of a power its result alone counts");
        // n ^ 2 has 16 cells of 3801 bits, n 8 cells of 1901, n ^ 3 none; c has 19001 limbs
        String column = "[t;t;t;t]";
        String n = "t=d*2^900;n=[zero(;4,4)," + column + ",zero(;4,4);zero(;1,5)," + column + "';zero(;4,9)];";
        desk = Desk.after(LONG + n + "c=x*" + ones(8, 19) + ";");
        desk.beyond(5, "b=@[c,c,x,n^3];");
        desk.beyond(8, "b=[c,c,x,n@^2];");
    }

    private static void latestValue() {
        Desk.sentence("A name stands for the value that it was given latest, in this script or one before.");
        Desk desk = new Desk();
        Desk.due("in this script", desk.told("a=1;show a;a=a+1;show a;b=a;a=5;show b;"), "7 -1 [1]|[2]|[2]|");
        Desk.due("in one before", desk.told("show a;show b;"), "2 -1 [5]|[2]|");
        Desk.due("not that of a fault", desk.told("a=6;a=7/0;"), "-93 7 ");
        Desk.due("the one ahead of it", desk.told("show a;"), "1 -1 [6]|");
        Desk.due("nor of one that is not done", desk.told("a=8;show"), "-98 8 ");
        Desk.due("still", desk.told("show a;"), "1 -1 [6]|");
    }

    private static void aNumberHasOneCell() {
        Desk.sentence("A number is a value of one cell.");
        Desk.shows("show rows(7);show columns(7);show 7';show det(7);show [7]+7;show 7^2;", "[1]|[1]|[7]|[7]|[14]|[49]|");
        new Desk().within("check 7=[7];check 7=id(;1)*7;");
    }

    private static void numbersBehind() {
        Desk.sentence("AT HAND are the numbers: atoms of their own, which those behind ; and ^ are not");
        Desk desk = Desk.after("z=zero(;32,32);o=zero(;31,33);");
        desk.within("a=z+(z+(z+part(z;1,32,1,32)));a=z+(z+(z+mod(z;7)));a=z+(z+(z+echelon(z;7)));a=z+(z+(z+z^2));a=z+(z+(z+z^-0));");
        desk.beyond(8, "a=z+(z+(z+(z*@2)));");
        desk.beyond(5, "a=@[z,z,z,o,id(;1)];");
        desk.beyond(8, "a=[z,z,z,o,1*@1];");
        desk.beyond(6, "a=z+(z+(z+mod(z;@4)));");
        desk.beyond(6, "a=z+(z+(z+z^@1001));");
    }

    private static void putTogether() {
        Desk.sentence("[A, B; C, D ..]: those of a row side by side (they have as many rows), these rows one under the other (they have as many columns)");
        Desk desk = Desk.after("a=[1,2;3,4];r=[5,6];c=[7;8];");
        Desk.due("side by side", desk.told("show [a,c];show [c,a];show [a;r];show [r;a];show [a,c;r,9];show [9,r;c,a];"),
                "6 -1 [1, 2, 7; 3, 4, 8]|[7, 1, 2; 8, 3, 4]|[1, 2; 3, 4; 5, 6]|[5, 6; 1, 2; 3, 4]|[1, 2, 7; 3, 4, 8; 5, 6, 9]|[9, 5, 6; 7, 1, 2; 8, 3, 4]|");
        desk.beyond(5, "x=@[a,r];");
        desk.beyond(5, "x=@[r,a];");
        desk.beyond(5, "x=@[a;c];");
        desk.beyond(5, "x=@[c;a];");
        desk.beyond(5, "x=@[a,c;r];");
        desk.beyond(5, "x=@[r;a,c];");
        desk.beyond(5, "x=@[r;r;r,1];");
        desk.beyond(5, "x=@[1,2;3,4;a,1];");
        desk.beyond(5, "x=@[a,1;1,2,3];");
        desk.within("x=[a,c;1,2,3];x=[a;a];x=[a,a;a,a];");
        Desk.sentence("all of it at its ], behind all values within");
        desk.beyond(3, "x=[a,r,@nix];");
        desk.beyond(7, "x=[a;c;1@/0];");
        desk.beyond(5, "x=[[1,2;3,4],[1,2],r@+1];");
        desk.beyond(5, "x=[a,@[a,r]];");
    }
}
