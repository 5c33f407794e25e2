import java.lang.management.ManagementFactory;
import java.math.BigInteger;
import java.util.Random;

/** All calls of one run live in one room, where nothing is ever taken back: the dearest scripts, again and again. */
public final class RoomTest {
    /** 7.3 million fields and elements, most of them ints, of which a quarter is left to other objects of the run. */
    private static final long ROOM = 7300000L * 4 / 4 * 3;
    private static final Random RANDOM = new Random(7);

    public static void main(String[] args) {
        allCallsStayInTheRoom();
        aNewObjectIsSmall();
        Desk.close("RoomTest");
    }

    private static long made() {
        com.sun.management.ThreadMXBean bean = (com.sun.management.ThreadMXBean) ManagementFactory.getThreadMXBean();
        return bean.getThreadAllocatedBytes(Thread.currentThread().getId());
    }

    private static String matrix(int rows, int columns, int bits) {
        StringBuilder text = new StringBuilder("[");
        for (int i = 0; i < rows * columns; i++) {
            text.append(i == 0 ? "" : i % columns == 0 ? ";" : ",").append(RANDOM.nextBoolean() ? "-" : "").append(new BigInteger(bits, RANDOM));
        }
        return text + "]";
    }

    private static void allCallsStayInTheRoom() {
        Desk desk = new Desk();
        String big = "d=2^1000;x=d*d*d*2^900+1;u=x*" + matrix(8, 16, 2) + ";v=(x+2)*" + matrix(16, 1, 3) + "/(x+4);";
        String[] dear = {
            "show inverse(" + matrix(32, 32, 57) + ");",
            "show hermite(" + matrix(32, 32, 57) + ");",
            "show hermite([" + matrix(22, 22, 85) + ",id(;22)]);",
            "show smith(" + matrix(16, 64, 121) + ");",
            "show solve(" + matrix(32, 32, 57) + "," + matrix(32, 32, 57) + ");",
            "show lll(" + matrix(31, 32, 57) + ");",
            "show swaps([" + matrix(16, 3, 120) + ",id(;16)]);",
            "show minpoly(" + matrix(32, 32, 10) + ");",
            "show frobenius(" + matrix(8, 8, 59) + ");",
            "show kernel(" + matrix(16, 20, 121) + ");",
            big + "w=part(u;1,8,1,1)*v';w=u*v;",
            "d=2^1000;x=d*d*d;show (" + matrix(64, 1, 30) + "*x)*(" + matrix(1, 16, 20) + "*x);",
            "show [" + "1,2,3,4,5,6,7,8,9,10;".repeat(63) + "1,2,3,4,5,6,7,8,9,10];",
        };
        long most = 0;
        for (int round = 0; round < 30; round++) {
            for (String text : dear) {
                desk.feed(text);
                long before = made();
                desk.scripts.run();
                most += made() - before;
                desk.scripts.wipe();
            }
        }
        System.out.println("the dearest scripts made " + most + " bytes");
        Desk.due("room for all calls", most < ROOM, true);
    }

    private static void aNewObjectIsSmall() {
        new MatrixScripts();
        long before = made();
        MatrixScripts x = new MatrixScripts();
        long size = made() - before;
        Desk.due("length", x.length(), 0);
        Desk.due("room for 50 new objects", 50 * size < ROOM / 4, true);
    }
}
