import java.math.BigInteger;
import java.util.Random;

/** Promise 4: det, rank, echelon, kernel, inverse, solve and mod modulo a prime, held against plain elimination. */
public final class ResiduesTest {
    private static final int[] PRIMES = {2, 3, 5, 7, 13, 101, 46337, 65537, 1073741789, 2147483629, 2147483647};
    private static final Random RANDOM = new Random(20261116);
    private static final Desk USED = new Desk();

    public static void main(String[] args) {
        for (int round = 0; round < 100; round++) {
            for (int p : PRIMES) {
                forms(p);
                solving(p);
                squares(p);
            }
        }
        Desk.close("ResiduesTest");
    }

    private static void due(String sum, String want) {
        Desk.due(sum, new Desk().told("show " + sum + ";"), want);
        Desk.due("again: " + sum, USED.told("show " + sum + ";"), want);
    }

    private static String shown(long[][] m) {
        StringBuilder text = new StringBuilder("1 -1 [");
        for (int i = 0; i < m.length; i++) {
            for (int j = 0; j < m[0].length; j++) {
                text.append(i + j == 0 ? "" : j == 0 ? "; " : ", ").append(m[i][j]);
            }
        }
        return text + "]|";
    }

    /** The text of fractions that no lower part of is divided by p, and what they are modulo p. */
    private static String fill(long[][] m, int p) {
        int size = 1 + RANDOM.nextInt(RANDOM.nextBoolean() ? 3 : 80);
        BigInteger prime = BigInteger.valueOf(p);
        StringBuilder text = new StringBuilder("[");
        for (int i = 0; i < m.length; i++) {
            for (int j = 0; j < m[0].length; j++) {
                BigInteger upper = new BigInteger(size, RANDOM).subtract(BigInteger.ONE.shiftLeft(size - 1));
                BigInteger lower = RANDOM.nextInt(3) > 0 ? BigInteger.ONE : BigInteger.valueOf(1 + RANDOM.nextInt(30));
                lower = lower.mod(prime).signum() == 0 ? BigInteger.ONE : lower;
                text.append(i + j == 0 ? "" : j == 0 ? ";" : ",").append(upper).append("/").append(lower);
                m[i][j] = upper.multiply(lower.modInverse(prime)).mod(prime).longValue();
            }
        }
        return text + "]";
    }

    private static long inverse(long a, int p) {
        return BigInteger.valueOf(a).modInverse(BigInteger.valueOf(p)).longValue();
    }

    /** The echelon form, and which columns the pivots have. */
    private static int echelon(long[][] m, int columns, int p, int[] pivots) {
        int rank = 0;
        for (int c = 0; c < columns && rank < m.length; c++) {
            int row = rank;
            while (row < m.length && m[row][c] == 0) {
                row++;
            }
            if (row == m.length) {
                continue;
            }
            long[] kept = m[row];
            m[row] = m[rank];
            m[rank] = kept;
            long head = inverse(kept[c], p);
            for (int j = 0; j < kept.length; j++) {
                kept[j] = kept[j] * head % p;
            }
            for (int i = 0; i < m.length; i++) {
                long times = m[i][c];
                for (int j = 0; j < kept.length && i != rank; j++) {
                    m[i][j] = Math.floorMod(m[i][j] - times * kept[j] % p, p);
                }
            }
            pivots[rank] = c;
            rank++;
        }
        return rank;
    }

    private static void forms(int p) {
        long[][] m = new long[1 + RANDOM.nextInt(5)][1 + RANDOM.nextInt(5)];
        String text = fill(m, p);
        due("mod(" + text + ";" + p + ")", shown(m));
        int[] pivots = new int[m.length];
        int rank = echelon(m, m[0].length, p, pivots);
        due("echelon(" + text + ";" + p + ")", shown(m));
        due("rank(" + text + ";" + p + ")", "1 -1 [" + rank + "]|");
        due("kernel(" + text + ";" + p + ")", rank == m[0].length ? "-93 5 " : shown(kernel(m, rank, pivots, p)));
    }

    private static long[][] kernel(long[][] form, int rank, int[] pivots, int p) {
        int columns = form[0].length;
        long[][] kernel = new long[columns - rank][columns];
        int next = 0;
        int row = 0;
        for (int c = 0; c < columns; c++) {
            if (next < rank && pivots[next] == c) {
                next++;
                continue;
            }
            kernel[row][c] = 1;
            for (int i = 0; i < rank; i++) {
                kernel[row][pivots[i]] = Math.floorMod(-form[i][c], p);
            }
            row++;
        }
        echelon(kernel, columns, p, new int[kernel.length]);
        return kernel;
    }

    private static void solving(int p) {
        int rows = 1 + RANDOM.nextInt(4);
        long[][] a = new long[rows][1 + RANDOM.nextInt(4)];
        long[][] b = new long[rows][1 + RANDOM.nextInt(3)];
        String sum = "solve(" + fill(a, p) + "," + fill(b, p) + ";" + p + ")";
        long[][] both = new long[rows][];
        for (int i = 0; i < rows; i++) {
            both[i] = java.util.Arrays.copyOf(a[i], a[0].length + b[0].length);
            System.arraycopy(b[i], 0, both[i], a[0].length, b[0].length);
        }
        int[] pivots = new int[rows];
        int rank = echelon(both, a[0].length, p, pivots);
        long[][] x = new long[a[0].length][b[0].length];
        boolean fine = true;
        for (int i = 0; i < rows; i++) {
            for (int j = 0; j < b[0].length; j++) {
                fine = fine && (i < rank || both[i][a[0].length + j] == 0);
                if (i < rank) {
                    x[pivots[i]][j] = both[i][a[0].length + j];
                }
            }
        }
        due(sum, fine ? shown(x) : "-93 5 ");
    }

    private static void squares(int p) {
        int n = 1 + RANDOM.nextInt(4);
        long[][] s = new long[n][n];
        String text = fill(s, p);
        BigInteger det = determinant(s, 0, 0);
        det = det.mod(BigInteger.valueOf(p));
        due("det(" + text + ";" + p + ")", "1 -1 [" + det + "]|");
        long[][] both = new long[n][];
        for (int i = 0; i < n; i++) {
            both[i] = java.util.Arrays.copyOf(s[i], 2 * n);
            both[i][n + i] = 1;
        }
        echelon(both, n, p, new int[n]);
        long[][] inverse = new long[n][];
        for (int i = 0; i < n; i++) {
            inverse[i] = java.util.Arrays.copyOfRange(both[i], n, 2 * n);
        }
        due("inverse(" + text + ";" + p + ")", det.signum() == 0 ? "-93 5 " : shown(inverse));
    }

    /** By its first row; the columns in the mask are used up. */
    private static BigInteger determinant(long[][] s, int row, int mask) {
        if (row == s.length) {
            return BigInteger.ONE;
        }
        BigInteger sum = BigInteger.ZERO;
        int sign = 1;
        for (int c = 0; c < s.length; c++) {
            if ((mask >> c & 1) == 0) {
                sum = sum.add(BigInteger.valueOf(sign * s[row][c]).multiply(determinant(s, row + 1, mask | 1 << c)));
                sign = -sign;
            }
        }
        return sum;
    }
}
