import java.math.BigInteger;

/** Fractions, and matrices of them, in the plainest way: what the definitions are tested with. */
final class Q {
    static final Q ZERO = new Q(BigInteger.ZERO, BigInteger.ONE);
    static final Q ONE = new Q(BigInteger.ONE, BigInteger.ONE);
    final BigInteger upper;
    final BigInteger lower;

    Q(BigInteger upper, BigInteger lower) {
        BigInteger g = upper.gcd(lower);
        g = lower.signum() < 0 ? g.negate() : g;
        this.upper = upper.divide(g);
        this.lower = lower.divide(g);
    }

    static Q of(long n) {
        return new Q(BigInteger.valueOf(n), BigInteger.ONE);
    }

    static Q of(BigInteger n) {
        return new Q(n, BigInteger.ONE);
    }

    Q plus(Q o) {
        return new Q(upper.multiply(o.lower).add(o.upper.multiply(lower)), lower.multiply(o.lower));
    }

    Q minus(Q o) {
        return plus(new Q(o.upper.negate(), o.lower));
    }

    Q times(Q o) {
        return new Q(upper.multiply(o.upper), lower.multiply(o.lower));
    }

    Q over(Q o) {
        return new Q(upper.multiply(o.lower), lower.multiply(o.upper));
    }

    boolean isZero() {
        return upper.signum() == 0;
    }

    boolean same(Q o) {
        return upper.equals(o.upper) && lower.equals(o.lower);
    }

    int compare(Q o) {
        return minus(o).upper.signum();
    }

    BigInteger floor() {
        BigInteger[] both = upper.divideAndRemainder(lower);
        return both[1].signum() < 0 ? both[0].subtract(BigInteger.ONE) : both[0];
    }

    /** The whole number next to it, of two as near the even one. */
    BigInteger nearest() {
        Q half = new Q(BigInteger.ONE, BigInteger.TWO);
        BigInteger up = plus(half).floor();
        boolean tie = Q.of(up).minus(half).same(this);
        return tie && up.testBit(0) ? up.subtract(BigInteger.ONE) : up;
    }

    @Override
    public String toString() {
        return lower.equals(BigInteger.ONE) ? upper.toString() : upper + "/" + lower;
    }

    static Q[][] matrix(int rows, int columns) {
        Q[][] m = new Q[rows][columns];
        for (Q[] row : m) {
            java.util.Arrays.fill(row, ZERO);
        }
        return m;
    }

    static Q[][] identity(int n) {
        Q[][] m = matrix(n, n);
        for (int i = 0; i < n; i++) {
            m[i][i] = ONE;
        }
        return m;
    }

    static Q[][] copy(Q[][] m) {
        Q[][] c = new Q[m.length][];
        for (int i = 0; i < m.length; i++) {
            c[i] = m[i].clone();
        }
        return c;
    }

    static Q[][] product(Q[][] a, Q[][] b) {
        Q[][] m = matrix(a.length, b[0].length);
        for (int i = 0; i < a.length; i++) {
            for (int j = 0; j < b[0].length; j++) {
                for (int k = 0; k < b.length; k++) {
                    m[i][j] = m[i][j].plus(a[i][k].times(b[k][j]));
                }
            }
        }
        return m;
    }

    /** a + f b. */
    static Q[][] sum(Q[][] a, Q f, Q[][] b) {
        Q[][] m = copy(a);
        for (int i = 0; i < m.length; i++) {
            m[i] = sum(a[i], f, b[i]);
        }
        return m;
    }

    static Q[] sum(Q[] a, Q f, Q[] b) {
        Q[] m = a.clone();
        for (int j = 0; j < m.length; j++) {
            m[j] = a[j].plus(f.times(b[j]));
        }
        return m;
    }

    static Q dot(Q[] a, Q[] b) {
        Q s = ZERO;
        for (int j = 0; j < a.length; j++) {
            s = s.plus(a[j].times(b[j]));
        }
        return s;
    }

    static Q[][] beside(Q[][] a, Q[][] b) {
        Q[][] m = matrix(a.length, a[0].length + b[0].length);
        for (int i = 0; i < a.length; i++) {
            System.arraycopy(a[i], 0, m[i], 0, a[i].length);
            System.arraycopy(b[i], 0, m[i], a[i].length, b[i].length);
        }
        return m;
    }

    /** By expansion along the first row. */
    static Q det(Q[][] m) {
        if (m.length == 0) {
            return ONE;
        }
        Q sum = ZERO;
        for (int j = 0; j < m.length; j++) {
            if (!m[0][j].isZero()) {
                Q part = m[0][j].times(det(without(m, j)));
                sum = j % 2 == 0 ? sum.plus(part) : sum.minus(part);
            }
        }
        return sum;
    }

    private static Q[][] without(Q[][] m, int column) {
        Q[][] less = matrix(m.length - 1, m.length - 1);
        for (int i = 1; i < m.length; i++) {
            for (int j = 0; j < m.length; j++) {
                if (j != column) {
                    less[i - 1][j < column ? j : j - 1] = m[i][j];
                }
            }
        }
        return less;
    }

    static Q[][] echelon(Q[][] a) {
        Q[][] m = copy(a);
        int row = 0;
        for (int c = 0; c < m[0].length && row < m.length; c++) {
            int found = row;
            while (found < m.length && m[found][c].isZero()) {
                found++;
            }
            if (found == m.length) {
                continue;
            }
            Q[] kept = m[found];
            m[found] = m[row];
            m[row] = kept;
            Q head = m[row][c];
            for (int j = 0; j < m[row].length; j++) {
                m[row][j] = m[row][j].over(head);
            }
            for (int i = 0; i < m.length; i++) {
                if (i != row) {
                    m[i] = sum(m[i], ZERO.minus(m[i][c]), m[row]);
                }
            }
            row++;
        }
        return m;
    }

    static int rank(Q[][] a) {
        int rank = 0;
        for (Q[] row : echelon(a)) {
            rank += isZero(row) ? 0 : 1;
        }
        return rank;
    }

    static boolean isZero(Q[] row) {
        for (Q cell : row) {
            if (!cell.isZero()) {
                return false;
            }
        }
        return true;
    }

    static boolean same(Q[][] a, Q[][] b) {
        boolean same = a.length == b.length && a[0].length == b[0].length;
        for (int i = 0; same && i < a.length; i++) {
            for (int j = 0; j < a[0].length; j++) {
                same = same && a[i][j].same(b[i][j]);
            }
        }
        return same;
    }

    static String text(Q[][] m) {
        StringBuilder text = new StringBuilder("[");
        for (int i = 0; i < m.length; i++) {
            for (int j = 0; j < m[i].length; j++) {
                text.append(j > 0 ? ", " : i > 0 ? "; " : "").append(m[i][j]);
            }
        }
        return text.append("]").toString();
    }

    static Q[][] parse(String text) {
        String[] rows = text.substring(1, text.length() - 1).split("; ");
        Q[][] m = new Q[rows.length][];
        for (int i = 0; i < rows.length; i++) {
            String[] cells = rows[i].split(", ");
            m[i] = new Q[cells.length];
            for (int j = 0; j < cells.length; j++) {
                String[] both = cells[j].split("/");
                m[i][j] = new Q(new BigInteger(both[0]), both.length > 1 ? new BigInteger(both[1]) : BigInteger.ONE);
            }
        }
        return m;
    }
}
