import java.math.BigInteger;
import java.util.Random;

/** Promise 4: numbers to the last digit, where carries, guessed digits and divisors go wrong first. */
public final class LongNumbersTest {
    private static final Random RANDOM = new Random(4000);
    private static final Desk USED = new Desk();

    public static void main(String[] args) {
        guessedDigits();
        remainders();
        divisors();
        powersOfTwo();
        Desk.close("LongNumbersTest");
    }

    private static void due(String sum, Q want) {
        Desk.due(sum, USED.told("show " + sum + ";"), "1 -1 [" + want + "]|");
    }

    /** A number of parts that are nearly 0, half or all of what such a part can be. */
    private static BigInteger made(int bits, int parts) {
        BigInteger full = BigInteger.ONE.shiftLeft(bits);
        BigInteger number = BigInteger.ZERO;
        for (int i = 0; i < parts; i++) {
            BigInteger from = new BigInteger[] {BigInteger.ZERO, full.shiftRight(1), full}[RANDOM.nextInt(3)];
            int off = RANDOM.nextInt(4) - 2;
            BigInteger part = from.add(BigInteger.valueOf(off)).mod(full);
            number = number.shiftLeft(bits).add(part);
        }
        return number.add(BigInteger.ONE);
    }

    private static void guessedDigits() {
        for (int bits : new int[] {15, 16, 28, 30, 31, 32, 62, 63, 64}) {
            BigInteger b = BigInteger.ONE.shiftLeft(bits);
            // here a guessed digit is one too high, and two parts of both do not show it
            BigInteger v = b.pow(3).shiftRight(1).add(b).subtract(BigInteger.ONE);
            BigInteger q = b.pow(2).subtract(b).subtract(BigInteger.ONE);
            due(v.multiply(q) + "/" + v, Q.of(q));
            for (int i = 0; i < 200; i++) {
                v = made(bits, 2 + RANDOM.nextInt(3));
                q = made(bits, 1 + RANDOM.nextInt(3));
                due(v.multiply(q) + "/" + v, Q.of(q));
                BigInteger other = made(bits, 1 + RANDOM.nextInt(4));
                due(v + "/" + other, new Q(v, other));
                due(v + "*" + other + "-" + q, Q.of(v.multiply(other).subtract(q)));
            }
        }
    }

    /** What is left of u when v is taken off, and how often, by Hermite's form. */
    private static void remainders() {
        for (int bits : new int[] {30, 31, 32, 62, 64}) {
            for (int i = 0; i < 150; i++) {
                BigInteger u = made(bits, 2 + RANDOM.nextInt(4));
                BigInteger v = made(bits, 2 + RANDOM.nextInt(2));
                u = RANDOM.nextBoolean() ? u : v.multiply(made(bits, 2)).subtract(BigInteger.valueOf(1 + RANDOM.nextInt(3)));
                BigInteger w = BigInteger.ONE.shiftLeft(600).add(BigInteger.ONE);
                BigInteger[] both = u.divideAndRemainder(v);
                String sum = "hermite([1," + u + ",0;0," + v + ",5;0,0,2^600+1])";
                BigInteger corner = both[0].multiply(BigInteger.valueOf(-5)).mod(w);
                Desk.due(sum, USED.told("show part(" + sum + ";1,1,1,3);"), "1 -1 [1, " + both[1] + ", " + corner + "]|");
            }
        }
    }

    private static void divisors() {
        for (int i = 0; i < 3000; i++) {
            BigInteger g = new BigInteger(1 + RANDOM.nextInt(300), RANDOM).add(BigInteger.ONE);
            BigInteger u = new BigInteger(1 + RANDOM.nextInt(i % 2 == 0 ? 130 : 700), RANDOM).add(BigInteger.ONE);
            BigInteger l = new BigInteger(1 + RANDOM.nextInt(i % 3 == 0 ? 130 : 700), RANDOM).add(BigInteger.ONE);
            due(u.multiply(g) + "/" + l.multiply(g), new Q(u, l));
        }
    }

    private static void powersOfTwo() {
        for (int bits = 1; bits <= 200; bits++) {
            BigInteger two = BigInteger.ONE.shiftLeft(bits);
            due("2^" + bits + "-1", Q.of(two.subtract(BigInteger.ONE)));
            due("(2^" + bits + "-1)+1", Q.of(two));
            due("(2^" + bits + "-1)*(2^" + bits + "+1)", Q.of(two.pow(2).subtract(BigInteger.ONE)));
            due("(2^" + 2 * bits + "-1)/(2^" + bits + "+1)", Q.of(two.subtract(BigInteger.ONE)));
            due("(1-2^" + bits + ")*2^" + bits, Q.of(two.subtract(two.pow(2))));
            Desk desk = Desk.after("a=2^" + bits + "-1;b=2^" + bits + ";");
            Desk.due("limbs of 2^" + bits + " and one less", desk.scripts.told(1), 2 + (bits + 31) / 32 + (bits + 32) / 32);
        }
    }
}
