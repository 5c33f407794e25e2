import java.util.Random;

/** Promises 4 and 5: fault 8, and what is still allowed. */
public final class LimitsTest {
    /** x has 4000 bits; m is 160 cells of 1, e one of them alone; a has 20000 limbs. */
    private static final String LONG = "d=2^1000;x=d*d*d*2^999;y=d*d*d*2^960;";
    private static final String ONES = "m=" + ones(10, 1) + "*" + ones(1, 16) + ";"
            + "e=[1;" + "0;".repeat(8) + "0]*[1" + ",0".repeat(15) + "];";
    private static final String WIDEST = LONG + ONES + "a=y*m+(x-y)*(m-e);";

    public static void main(String[] args) {
        lengths();
        cells();
        limbsOfAValue();
        cellsAtHand();
        fullTapes();
        limbsAtHand();
        names();
        page();
        steps();
        weights();
        swaps();
        Desk.close("LimitsTest");
    }

    private static String ones(int rows, int columns) {
        String row = "1" + ",1".repeat(columns - 1);
        return "[" + row + (";" + row).repeat(rows - 1) + "]";
    }

    private static void due8(String before, String statement, int placeInIt) {
        Desk desk = new Desk();
        Desk.due("before " + statement, desk.run(before) >= 0, true);
        Desk.due(statement, desk.run(statement) + " " + desk.scripts.place(), "-92 " + placeInIt);
    }

    private static void fine(String before, String statement) {
        Desk desk = new Desk();
        Desk.due("before " + statement, desk.run(before) >= 0, true);
        Desk.due(statement, desk.run(statement) >= 0, true);
    }

    private static void lengths() {
        fine(LONG, "a=x;a=-x;a=x+(x-1);a=1/x;a=[x,1/1];a=[1/x];a=x'^1;");
        due8(LONG, "a=x+x;", 3);
        due8(LONG, "a=x*2;", 3);
        due8(LONG, "a=1/x/2;", 5);
        due8(LONG, "a=x-(-x);", 3);
        due8(LONG, "a=[x,1/2];", 2);
        due8(LONG, "a=[x/3];b=[1/x+3];", 14);
        due8(LONG, "a=[1/x,1/3];", 2);
        due8(LONG, "a=x^2;", 3);
        due8(LONG, "a=(1/x)^2;", 7);
        due8(LONG, "a=16^1000;", 4);
        fine(LONG, "a=15^1000;");
        // what is worked out within may be longer
        fine(LONG, "a=x/(x+1)*((x+1)/x);a=(x+1)/x-1/x;");
    }

    private static void cells() {
        fine("", "z=zero(;32,32);z=zero(;64,16);z=zero(;16,64);z=id(;32);z=zero(;64,1)*zero(;1,16);");
        due8("", "z=zero(;33,32);", 2);
        due8("", "z=id(;33);", 2);
        due8("", "z=zero(;64,1)*zero(;1,17);", 13);
        due8("", "z=" + ones(1, 65) + ";", 2);
        due8("", "z=" + ones(65, 1) + ";", 2);
        fine("", "z=" + ones(1, 64) + ";z=" + ones(64, 1) + ";");
        due8("z=zero(;16,64);", "a=[z;" + ones(1, 64) + "];", 2);
        due8("z=zero(;16,60);", "a=[z,z];", 2);
        fine("z=zero(;16,32);", "a=[z,z];a=[z;z];");
        fine("z=zero(;1,32);", "a=kernel(z);a=solve(z,z);");
        due8("z=zero(;1,33);", "a=kernel(z);", 2);
        due8("z=zero(;1,64);", "a=solve(z,zero(;1,17));", 2);
        fine("z=zero(;1,64);", "a=solve(z,zero(;1,16));");
    }

    private static void limbsOfAValue() {
        Desk desk = new Desk();
        desk.run(WIDEST);
        desk.run("d=0;x=0;y=0;m=0;e=0;");
        Desk.due("limbs", desk.scripts.told(1), 20000 + 5);
        due8(LONG + ONES, "a=y*m+(x-y)*m;", 11);
        due8(LONG + ONES, "a=y*m+e*(x-y)+(m-e)*(x-y)+e*(x-y);", 13);
        due8(WIDEST, "b=a+e*(x-y);", 3);
    }

    private static void cellsAtHand() {
        String z = "z=zero(;32,32);o=1;";
        fine(z, "a=z*(z*(z*z));");
        fine(z, "check z*(z*z)=z;");
        due8(z, "a=z*(z*(z*(z*1)));", 13);
        due8(z, "a=z*(z*(z*(z*o)));", 13);
        due8(z, "a=z*(z*(z*(z*id(;2))));", 13);
        due8(z, "a=[z,z,z,z,z];", 11);
        due8(z, "a=[z,z,z,z];", 2);
        due8(z, "check z*0=z*(z*(z*(z*z)));", 19);
        due8(z, "a=z+(z+(z+(z+(-z))));", 15);
        fine(z, "a=z+(z+(z+(-z)));a=z+z+z+z+z+z+z;");
        fine(z, "a=z*(z*(z*z^3));");
        // the arguments have gone into the result when that is there
        fine(z, "check z*(z*z)=part(z;1,32,1,32)';");
    }

    /** Tapes full of words. */
    private static void fullTapes() {
        due8("", "show [" + "1,".repeat(30000) + "1];", 6 + 2 * 4096);
        due8("", "show [" + "1,".repeat(4095) + "1];", 5);
        due8("", "show det(" + "1,".repeat(30000) + "1);", 9 + 2 * 4096);
        Desk.fault("show det(" + "1,".repeat(4095) + "1);", 5, 5);
        Desk.fault("show id(;" + "1,".repeat(30000) + "1);", 5, 5);
        Desk.script("show 1" + "'".repeat(65529) + ";", 1, -1, "[1]|");
        Desk.script("show 1" + "+1".repeat(32700) + ";", 1, -1, "[32701]|");
        Desk.script("show 1" + "^1".repeat(32700) + ";", 1, -1, "[1]|");
        Desk.script("a=1;".repeat(16384), 16384, -1, "");
        Desk.script("show 1;" + " ".repeat(65529), 1, -1, "[1]|");
        Desk.script("#".repeat(65536), 0, -1, "");
        Desk.fault("(".repeat(65536), 2, 0);
        Desk.fault("a=" + "(".repeat(65534), 2, 32);
        Desk.fault("a".repeat(65536), 1, 0);
        Desk.fault("9".repeat(65536), 1, 0);
    }

    private static void limbsAtHand() {
        fine(WIDEST, "b=a-a;check a=a;");
        due8(WIDEST, "b=[a,a,0];", 7);
        due8(WIDEST, "check a=a+0;", 10);
        due8(WIDEST, "b=a-(a-a);", 7);
        Desk desk = new Desk();
        desk.run("d=2^1000;x=d*2^999;s=x*id(;12)+x*" + ones(12, 1) + "*" + ones(1, 12) + ";d=0;x=0;");
        Desk.due("s", desk.scripts.told(1), 2 + 1 + 12 * 11 * 63 + 12 * 63);
        Desk.due("four and one", desk.run("b=s-(s-(s-s));") + " " + desk.scripts.place(), "1 -1");
        Desk.due("five", desk.run("b=s-(s-(s-(s-s)));") + " " + desk.scripts.place(), "-92 13");
    }

    private static void names() {
        Desk desk = new Desk();
        StringBuilder text = new StringBuilder();
        for (int i = 0; i < 200; i++) {
            text.append("n").append(i).append("=").append(i).append(";");
        }
        Desk.due("200 names", desk.run(text.toString()), 200);
        Desk.due("one more", desk.run("show 1; n200=1;") + " " + desk.scripts.place(), "-92 8");
        Desk.due("one of them", desk.run("n199=7;n0=8;show n199+n0+n100;"), 3);
        Desk.due("told", desk.scripts.told(0), 200);
        Desk.due("forget", desk.scripts.forget(), 200);
        Desk.due("one more", desk.run("n200=1;"), 1);

        desk = new Desk();
        text = new StringBuilder("a=zero(;17,32);");
        for (int i = 0; i < 19; i++) {
            text.append("n").append(i).append("=zero(;32,32);");
        }
        Desk.due("20000 cells", desk.run(text.toString()), 20);
        Desk.due("one more", desk.run(" b=1;") + " " + desk.scripts.place(), "-92 1");
        Desk.due("one instead", desk.run("a=zero(;17,32);n3=1;b=zero(;31,33);"), 3);
        Desk.due("one more", desk.run("b=zero(;32,32);") + " " + desk.scripts.place(), "-92 0");
        Desk.due("b is as before", desk.run("check b=zero(;31,33);"), 1);

        desk = new Desk();
        Desk.due("9999 limbs", desk.run("b=" + wide(8, 10, 935) + ";"), 1);
        Desk.due("limbs", desk.scripts.told(1), 9999);
        Desk.due("20000 more", desk.run("a=" + wide(10, 16, 960) + ";"), 1);
        Desk.due("30000", desk.run("c=0;"), 1);
        Desk.due("limbs", desk.scripts.told(1), 30000);
        Desk.due("beyond", desk.run("a=a;f=0;") + " " + desk.scripts.place(), "-92 4");
        Desk.due("beyond", desk.run("c=1;") + " " + desk.scripts.place(), "-92 0");
        Desk.due("what it had counts no more", desk.run("b=0*b;c=1;f=0;"), 3);
        Desk.due("limbs", desk.scripts.told(1), 20004);
    }

    /** A value of cells of 4000 bits but for the first, of that many bits above 3001. */
    private static String wide(int rows, int columns, int bits) {
        String d = "2^1000*2^1000*2^1000*";
        String m = ones(rows, 1) + "*" + ones(1, columns);
        String e = "[1" + ";0".repeat(rows - 1) + "]*[1" + ",0".repeat(columns - 1) + "]";
        return d + "2^" + bits + "*(" + m + ")+(" + d + "2^999-" + d + "2^" + bits + ")*(" + m + "-" + e + ")";
    }

    private static void page() {
        Desk desk = new Desk();
        desk.run(LONG);
        Desk.due("165 long ones", desk.run("show x;".repeat(165)), 165);
        Desk.due("length", desk.scripts.length(), 165 * 1207);
        Desk.due("too long", desk.run("show 1;show x;show 2;") + " " + desk.scripts.place(), "-92 7");
        Desk.due("length", desk.scripts.length(), 165 * 1207 + 4);
        Desk.due("full", desk.run("show " + "7".repeat(600) + ";show " + "7".repeat(235) + ";"), 2);
        Desk.due("length", desk.scripts.length(), 200000);
        Desk.due("last", desk.scripts.shown(199999) + " " + desk.scripts.shown(199998) + " " + desk.scripts.shown(199997), "10 93 55");
        Desk.due("beyond", desk.run("a=1;show 1;") + " " + desk.scripts.place(), "-92 4");
        Desk.due("length", desk.scripts.length(), 200000);
        Desk.due("wipe", desk.scripts.wipe(), 200000);
        Desk.due("again", desk.run("show x;"), 1);
    }

    /** A script of so many steps. z has 1024 cells. */
    private static String spend(int steps) {
        int products = steps / 65568;
        int turns = steps % 65568 / 1025;
        return "u=z*z;".repeat(products) + "u=z';".repeat(turns) + "u=1;".repeat(steps % 65568 % 1025);
    }

    private static void steps(String statement, int steps, int place) {
        Desk desk = new Desk();
        desk.run("z=zero(;32,32);k=2;m=[1,2,3;4,5,6];n=[1,2,3,4;5,6,7,8;9,1,2,3];s=[1,2,3;4,5,6;7,8,1];q=[1;2];");
        String most = spend(2000000 - steps);
        Desk.due("just " + statement, desk.run(most + statement) >= 0, true);
        String beyond = spend(2000000 - steps + 1);
        Desk.due("beyond " + statement, desk.run(beyond + statement) + " " + (desk.scripts.place() - beyond.length()), "-92 " + place);
    }

    private static void steps() {
        steps("a=5;", 1, 2);
        steps("a=-5;", 3, 2);
        steps("a=(((5)));", 1, 5);
        steps("a=[1,2;3,4];", 9, 2);
        steps("a=[m;m];", 13, 2);
        steps("a=m+m;", 13, 3);
        steps("a=m-m;", 13, 3);
        steps("a=-m;", 7, 2);
        steps("a=m*n;", 19 * 3, 3);
        steps("a=n'*m';", 13 + 7 + 19 * 3, 4);
        steps("a=m*k;", 8, 3);
        steps("a=k*m;", 8, 3);
        steps("a=q*k;", 4, 3);
        steps("a=k*q';", 3 + 4, 3);
        steps("a=q*q';", 3 + 5, 3);
        steps("a=q'*q;", 3 + 5 * 2, 4);
        steps("a=k*k;", 3, 3);
        steps("a=m/k;", 8, 3);
        steps("a=m';", 7, 3);
        steps("a=s^0;", 10, 3);
        steps("a=s^-0;", 10, 3);
        steps("a=s^2;", 57, 3);
        steps("a=s^3;", 114, 3);
        steps("a=s^5;", 171, 3);
        steps("a=s^8;", 171, 3);
        steps("a=s^-1;", 30, 3);
        steps("a=s^-3;", 30 + 114, 3);
        steps("a=k^2;", 3, 3);
        steps("a=id(;5);", 1, 2);
        steps("a=zero(;5,6);", 1, 2);
        steps("a=part(m;1,1,1,1);", 7, 2);
        steps("a=trace(s);", 10, 2);
        steps("a=rows(m);", 7, 2);
        steps("a=columns(m);", 7, 2);
        steps("a=mod(m;5);", 7, 2);
        for (String name : new String[] {"rank", "echelon", "kernel"}) {
            steps("a=" + name + "(m);", 14, 2);
            steps("a=" + name + "(m;7);", 14, 2);
            steps("a=" + name + "(n);", 13 * 3, 2);
        }
        for (String name : new String[] {"det", "inverse"}) {
            steps("a=" + name + "(s);", 30, 2);
            steps("a=" + name + "(s;11);", 30, 2);
        }
        steps("a=solve(m,q);", 18, 2);
        steps("a=solve(m,q;7);", 18, 2);
        steps("a=solve(s,n);", 22 * 3, 2);
        for (String name : new String[] {"hermite", "smith", "lll", "swaps"}) {
            steps("a=" + name + "(m);", 14, 2);
        }
        for (String name : new String[] {"charpoly", "minpoly", "frobenius"}) {
            steps("a=" + name + "(s);", 30, 2);
        }
        // these take none
        Desk desk = new Desk();
        desk.run("z=zero(;32,32);s=[1,2;3,4];");
        Desk.due("none left", desk.run(spend(2000000) + "a=s;a=(s);a=s^1;check s=s;show s;") >= 0, true);
        Desk.due("each run begins at 0", desk.run("a=1;"), 1);
        Desk.due("a number", desk.run(spend(2000000) + "show 1;"), -92);
    }

    /** The functions with a weight, with one argument put in. */
    private static void weight(String[] names, String before, String fits, String heavy) {
        for (String name : names) {
            String second = name.equals("solve") ? ",0*" + fits : "";
            fine(before, "a=" + name + "(" + fits + second + ");");
            due8(before, "a=" + name + "(" + heavy + second + ");", 2);
        }
    }

    private static void weights() {
        String d = "d=2^1000;x=d*2^999;";
        weight(new String[] {"det", "rank", "echelon", "inverse", "solve", "hermite", "smith", "lll", "swaps"}, d, "x", "(2*x)");
        weight(new String[] {"rank", "echelon", "kernel", "hermite", "smith", "lll"}, d, "[x,x-1]", "[x,2*x]");
        weight(new String[] {"lll", "inverse"}, d, "(1/x)", "(1/2/x)");
        weight(new String[] {"det", "rank", "inverse", "hermite", "smith", "lll"}, "", "[2^998,0;0,2^998]", "[2^998,0;0,2^999]");
        weight(new String[] {"det", "inverse", "hermite", "smith", "lll"}, "", "([1,0,0;0,1,0;0,0,1]*2^663)", "([1,0,0;0,1,0;0,0,1]*2^664)");
        weight(new String[] {"inverse"}, "", "[1/2^998,0;0,1]", "[1/2^999,0;0,1]");
        weight(new String[] {"charpoly", "minpoly", "frobenius"}, "", "2^499", "2^500");
        weight(new String[] {"charpoly", "minpoly", "frobenius"}, "", "(1/2^499)", "(1/2^500)");
        weight(new String[] {"charpoly", "minpoly", "frobenius"}, "", "[2^248,0;0,1]", "[2^249,0;0,1]");
        weight(new String[] {"charpoly", "minpoly"}, "", "(id(;32)*1023)", "(id(;32)*1024)");
        weight(new String[] {"frobenius"}, "", "id(;8)", "id(;9)");
        // rows become whole one by one, and what they are multiplied with does not weigh by itself
        fine(d, "a=det([1/x,0;0,1/x]);a=rank([1/x,2/x]);a=echelon([1/x,0;0,1/x]);");
        due8(d, "a=smith([1/x,0;0,1/x]);", 2);
        // both side by side: two columns
        fine(d, "a=rank([d*2^500;1]);a=solve([1;0],[2^998;0]);");
        due8(d, "a=solve([d*2^500;1],[0;0]);", 2);
        due8(d, "a=solve([1;0],[2^999;0]);", 2);
        due8(d, "a=solve([1/2^400;1],[2^599;1]);", 2);
        fine(d, "a=solve([1/2^400;0],[2^598;0]);");
        // with a prime nothing weighs, nor for others
        fine(d, "a=det(x*d;7);a=inverse([x*d,0;0,x*d];7);a=mod(x*d;7);a=trace(x*d);a=rank(x*d;2);");
        due8(d, "a=[2^999,0;0,1]^-1;", 15);
        fine(d, "a=[2^998,0;0,1]^-1;");
    }

    private static String knapsack(long seed, int rows, int columns, int bits) {
        Random random = new Random(seed);
        StringBuilder text = new StringBuilder("[[");
        for (int i = 0; i < rows * columns; i++) {
            text.append(i == 0 ? "" : i % columns == 0 ? ";" : ",").append(new java.math.BigInteger(bits, random));
        }
        return text + "],id(;" + rows + ")]";
    }

    private static void swaps() {
        String many = knapsack(1, 20, 3, 95);
        due8("", "a=swaps(" + many + ");", 2);
        due8("", "a=lll(" + many + ");", 2);
        // these two take 2000 and 2001
        Desk.shows("show swaps(" + knapsack(18, 12, 3, 150) + ");", "[2000]|");
        due8("", "a=swaps(" + knapsack(95, 12, 3, 150) + ");", 2);
    }
}
