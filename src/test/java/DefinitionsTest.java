import java.math.BigInteger;
import java.util.Random;

/** Promise 4: on many matrices, results are what their definitions say. */
public final class DefinitionsTest {
    private static final Random RANDOM = new Random(20261115);
    private static final Desk USED = new Desk();

    public static void main(String[] args) {
        for (int round = 0; round < 150; round++) {
            arithmetic();
            echelons();
            solving();
            residues();
            hermite();
            smith();
            polynomials();
            frobenius();
            lattices();
        }
        longNumbers();
        smallSmith();
        unluckyPrimes();
        Desk.close("DefinitionsTest");
    }

    /** What the statement shows; fault and place if there was one. An object that did others before is due to show the same. */
    private static String shown(String sum) {
        String got = shown(new Desk(), sum);
        Desk.due("again: " + sum, shown(USED, sum), got);
        return got;
    }

    private static String shown(Desk desk, String sum) {
        int answer = desk.run("show " + sum + ";");
        String page = desk.page().trim();
        desk.scripts.wipe();
        return answer == 1 ? page : answer + " " + desk.scripts.place();
    }

    private static void due(String sum, Q[][] value) {
        Desk.due(sum, shown(sum), Q.text(value));
    }

    private static void due(String sum, boolean holds) {
        Desk.due(sum, holds, true);
    }

    private static BigInteger number(int bits) {
        BigInteger size = new BigInteger(RANDOM.nextInt(bits + 1), RANDOM);
        return RANDOM.nextBoolean() ? size : size.negate();
    }

    /** Some rows depend on others, some cells are fractions. */
    private static Q[][] any(int rows, int columns, boolean whole) {
        int bits = new int[] {1, 2, 4, 8, 31, 32, 64, 90}[RANDOM.nextInt(8)];
        Q[][] m = Q.matrix(rows, columns);
        for (int i = 0; i < rows; i++) {
            for (int j = 0; j < columns; j++) {
                int lower = whole || RANDOM.nextInt(3) > 0 ? 1 : 1 + RANDOM.nextInt(12);
                m[i][j] = new Q(number(bits), BigInteger.valueOf(lower));
            }
            if (i > 1 && RANDOM.nextInt(4) == 0) {
                m[i] = Q.sum(m[i - 1], Q.of(RANDOM.nextInt(5) - 2), m[i - 2]);
            }
        }
        return m;
    }

    private static int side(int most) {
        return 1 + RANDOM.nextInt(most);
    }

    private static void arithmetic() {
        int n = side(4);
        Q[][] a = any(side(4), n, false);
        Q[][] b = any(n, side(4), false);
        Q[][] c = any(a.length, n, false);
        due(Q.text(a) + "*" + Q.text(b), Q.product(a, b));
        due(Q.text(a) + "+" + Q.text(c), Q.sum(a, Q.ONE, c));
        due(Q.text(a) + "-" + Q.text(c), Q.sum(a, Q.of(-1), c));
        Q[][] s = any(n, n, false);
        due(Q.text(s) + "^3", Q.product(Q.product(s, s), s));
        byName(a, b, s);
        due("det(" + Q.text(s) + ")", new Q[][] {{Q.det(s)}});
    }

    /** Of names, given by one run and told in another, in between of others. */
    private static void byName(Q[][] a, Q[][] b, Q[][] s) {
        Q[][] turned = Q.matrix(a[0].length, a.length);
        for (int i = 0; i < a.length; i++) {
            for (int j = 0; j < a[0].length; j++) {
                turned[j][i] = a[i][j];
            }
        }
        int row = RANDOM.nextInt(a.length);
        int column = RANDOM.nextInt(a[0].length);
        Q trace = Q.ZERO;
        for (int i = 0; i < s.length; i++) {
            trace = trace.plus(s[i][i]);
        }
        String[] sums = {"a'", "-a", "part(a;" + (row + 1) + "," + (row + 1) + "," + (column + 1) + "," + (column + 1) + ")", "a*b", "s^2", "trace(s)", "a", "a/3", "a*(2/5)"};
        Q[][][] values = {turned, Q.sum(Q.matrix(a.length, a[0].length), Q.of(-1), a), {{a[row][column]}}, Q.product(a, b), Q.product(s, s), {{trace}}, a,
            Q.sum(Q.matrix(a.length, a[0].length), new Q(BigInteger.ONE, BigInteger.valueOf(3)), a),
            Q.sum(Q.matrix(a.length, a[0].length), new Q(BigInteger.TWO, BigInteger.valueOf(5)), a)};
        Desk desk = Desk.after("a=" + Q.text(a) + ";b=" + Q.text(b) + ";s=" + Q.text(s) + ";");
        for (int times = 0; times < 2 * sums.length; times++) {
            int i = RANDOM.nextInt(sums.length);
            String before = new String[] {"x=1;", "x=1/7;", "x=[1/2,1/3];", "x=smith([2,4;6,9]);", "x=a;", ""}[RANDOM.nextInt(6)];
            String got = desk.told(before + "show " + sums[i] + ";");
            Desk.due(before + sums[i] + " of " + Q.text(a), got.substring(got.indexOf('[')), Q.text(values[i]) + "|");
        }
    }

    private static void echelons() {
        Q[][] a = any(side(5), side(5), false);
        due("echelon(" + Q.text(a) + ")", Q.echelon(a));
        int rank = Q.rank(a);
        due("rank(" + Q.text(a) + ")", new Q[][] {{Q.of(rank)}});
        String sum = "kernel(" + Q.text(a) + ")";
        String got = shown(sum);
        if (rank == a[0].length) {
            Desk.due(sum, got, "-93 5");
            return;
        }
        Q[][] kernel = Q.parse(got);
        due(sum, kernel.length == a[0].length - rank && Q.same(kernel, Q.echelon(kernel)) && !Q.isZero(kernel[kernel.length - 1]));
        for (Q[] row : kernel) {
            for (Q[] line : a) {
                due(sum, Q.dot(row, line).isZero());
            }
        }
    }

    private static void solving() {
        Q[][] a = any(side(4), side(4), false);
        Q[][] b = RANDOM.nextInt(3) == 0 ? any(a.length, side(3), false) : Q.product(a, any(a[0].length, side(3), false));
        String sum = "solve(" + Q.text(a) + "," + Q.text(b) + ")";
        String got = shown(sum);
        Q[][] form = Q.echelon(a);
        if (Q.rank(Q.beside(a, b)) > Q.rank(a)) {
            Desk.due(sum, got, "-93 5");
        } else {
            Q[][] x = Q.parse(got);
            due(sum, Q.same(Q.product(a, x), b));
            boolean[] pivot = new boolean[x.length];
            for (Q[] row : form) {
                for (int c = 0; c < row.length; c++) {
                    if (!row[c].isZero()) {
                        pivot[c] = true;
                        break;
                    }
                }
            }
            for (int i = 0; i < x.length; i++) {
                due(sum, pivot[i] || Q.isZero(x[i]));
            }
        }
        Q[][] s = any(side(5), 1, false);
        s = any(s.length, s.length, false);
        sum = "inverse(" + Q.text(s) + ")";
        got = shown(sum);
        if (Q.rank(s) < s.length) {
            Desk.due(sum, got, "-93 5");
        } else {
            due(sum, Q.same(Q.product(s, Q.parse(got)), Q.identity(s.length)));
            Desk.due(sum, shown(Q.text(s) + "^-1"), got);
        }
    }

    /** What is made of whole cells modulo p is what is made of the fractions, if no p is in the way. */
    private static void residues() {
        int p = new int[] {101, 65537, 2147483647, 46337}[RANDOM.nextInt(4)];
        int n = side(4);
        Q[][] s = any(n, n, true);
        Q det = Q.det(s);
        BigInteger modulus = BigInteger.valueOf(p);
        due("det(" + Q.text(s) + ";" + p + ")", new Q[][] {{Q.of(det.upper.mod(modulus))}});
        String inverse = "inverse(" + Q.text(s) + ";" + p + ")";
        if (det.upper.mod(modulus).signum() == 0) {
            Desk.due(inverse, shown(inverse), "-93 5");
        } else {
            Desk.due(inverse, shown(inverse), shown("mod(inverse(" + Q.text(s) + ");" + p + ")"));
            Desk.due("check", shown("mod(" + Q.text(s) + "*" + inverse + ";" + p + ")"), Q.text(Q.identity(n)));
            Desk.due("rank", shown("rank(" + Q.text(s) + ";" + p + ")"), "[" + n + "]");
        }
        Q[][] a = any(side(3), 4, true);
        String kernel = "kernel(" + Q.text(a) + ";" + p + ")";
        Q[][] zero = Q.matrix(a.length, Q.parse(shown(kernel)).length);
        Desk.due(kernel, shown("mod(" + Q.text(a) + "*" + kernel + "';" + p + ")"), Q.text(zero));
        Desk.due(kernel, shown("echelon(" + kernel + ";" + p + ")"), shown(kernel));
    }

    private static void hermite() {
        Q[][] a = any(side(4), side(5), true);
        String sum = "hermite(" + Q.text(a) + ")";
        Q[][] h = Q.parse(shown(sum));
        due(sum, h.length == a.length && h[0].length == a[0].length);
        int before = -1;
        for (int i = 0; i < h.length; i++) {
            int c = 0;
            while (c < h[i].length && h[i][c].isZero()) {
                c++;
            }
            due(sum, c == h[i].length || c > before && h[i][c].upper.signum() > 0);
            due(sum, c == h[i].length || before < h[i].length);
            before = Math.max(before, c);
            for (int k = 0; k < i && c < h[i].length; k++) {
                due(sum, h[k][c].upper.signum() >= 0 && h[k][c].compare(h[i][c]) < 0);
            }
        }
        due(sum, madeOf(h, a) && madeOf(a, h));
    }

    /** Whether the rows are whole combinations of those, taken off one by one from a form of stairs. */
    private static boolean madeOf(Q[][] rows, Q[][] from) {
        Q[][] stairs = stairs(from);
        for (Q[] row : rows) {
            Q[] left = row;
            for (Q[] step : stairs) {
                int c = 0;
                while (c < step.length && step[c].isZero()) {
                    c++;
                }
                if (c < step.length) {
                    left = Q.sum(left, Q.ZERO.minus(Q.of(left[c].over(step[c]).floor())), step);
                }
            }
            if (!Q.isZero(left)) {
                return false;
            }
        }
        return true;
    }

    private static Q[][] stairs(Q[][] from) {
        Q[][] m = Q.copy(from);
        int row = 0;
        for (int c = 0; c < m[0].length && row < m.length; c++) {
            for (int i = row + 1; i < m.length; i++) {
                while (!m[i][c].isZero()) {
                    Q times = m[row][c].isZero() ? Q.ZERO : Q.of(m[i][c].over(m[row][c]).floor());
                    Q[] rest = Q.sum(m[i], Q.ZERO.minus(times), m[row]);
                    m[i] = m[row];
                    m[row] = rest;
                    if (m[row][c].isZero()) {
                        Q[] kept = m[i];
                        m[i] = m[row];
                        m[row] = kept;
                    }
                }
            }
            row += m[row][c].isZero() ? 0 : 1;
        }
        return m;
    }

    private static void smith() {
        Q[][] a = any(side(4), side(4), true);
        int factor = 1 + RANDOM.nextInt(12);
        smith(Q.sum(a, Q.of(factor - 1), a));
    }

    /** Numbers that share some divisors. */
    private static void smallSmith() {
        int[] numbers = {0, 1, -1, 2, -2, 3, 4, -4, 6, -6, 8, 9, -9, 12, 18};
        for (int round = 0; round < 1500; round++) {
            Q[][] a = Q.matrix(side(3), side(3));
            for (Q[] row : a) {
                for (int j = 0; j < row.length; j++) {
                    row[j] = Q.of(numbers[RANDOM.nextInt(numbers.length)]);
                }
            }
            smith(a);
        }
    }

    private static void smith(Q[][] a) {
        String sum = "smith(" + Q.text(a) + ")";
        Q[][] s = Q.parse(shown(sum));
        due(sum, s.length == a.length && s[0].length == a[0].length);
        BigInteger product = BigInteger.ONE;
        BigInteger last = BigInteger.ONE;
        for (int i = 0; i < s.length; i++) {
            for (int j = 0; j < s[0].length; j++) {
                due(sum, i == j || s[i][j].isZero());
            }
            if (i < s[0].length) {
                BigInteger own = s[i][i].upper;
                product = product.multiply(own);
                due(sum, own.signum() == 0 || own.signum() > 0 && last.signum() > 0 && own.mod(last).signum() == 0);
                due(sum, minors(a, i + 1).equals(product));
                last = own;
            }
        }
    }

    private static BigInteger minors(Q[][] a, int k) {
        BigInteger g = BigInteger.ZERO;
        for (int rows = 0; rows < 1 << a.length; rows++) {
            for (int columns = 0; columns < 1 << a[0].length; columns++) {
                if (Integer.bitCount(rows) == k && Integer.bitCount(columns) == k) {
                    g = g.gcd(Q.det(chosen(a, rows, columns, k)).upper);
                }
            }
        }
        return g;
    }

    private static Q[][] chosen(Q[][] a, int rows, int columns, int k) {
        Q[][] m = Q.matrix(k, k);
        int row = 0;
        for (int i = 0; i < a.length; i++) {
            int column = 0;
            for (int j = 0; j < a[0].length && (rows >> i & 1) == 1; j++) {
                if ((columns >> j & 1) == 1) {
                    m[row][column++] = a[i][j];
                }
            }
            row += rows >> i & 1;
        }
        return m;
    }

    /** Blocks that come again, in another basis. */
    private static Q[][] blocks(int n) {
        Q[][] m = Q.matrix(n, n);
        Q one = new Q(BigInteger.valueOf(RANDOM.nextInt(5) - 2), BigInteger.valueOf(side(3)));
        Q other = Q.of(RANDOM.nextInt(3));
        for (int i = 0; i < n; i++) {
            m[i][i] = RANDOM.nextInt(3) > 0 ? one : other;
            if (i > 0 && RANDOM.nextBoolean()) {
                m[i][i - 1] = RANDOM.nextInt(3) > 0 ? Q.ONE : Q.of(RANDOM.nextInt(7) - 3);
            }
            if (i > 0 && RANDOM.nextInt(5) == 0) {
                m[i - 1][i] = Q.of(-1);
            }
        }
        for (int times = 0; times < 2 * n; times++) {
            int i = RANDOM.nextInt(n);
            int j = RANDOM.nextInt(n);
            Q f = Q.of(RANDOM.nextInt(3) - 1);
            if (i != j) {
                m[i] = Q.sum(m[i], f, m[j]);
                for (Q[] row : m) {
                    row[j] = row[j].minus(f.times(row[i]));
                }
            }
        }
        return m;
    }

    private static void polynomials() {
        int n = side(5);
        Q[][] a = RANDOM.nextInt(3) == 0 && n < 4 ? any(n, n, false) : blocks(n);
        String sum = "charpoly(" + Q.text(a) + ")";
        Q[] p = Q.parse(shown(sum))[0];
        due(sum, p.length == n + 1 && p[0].same(Q.ONE));
        for (int x = 0; x <= n; x++) {
            Q value = Q.ZERO;
            for (Q factor : p) {
                value = value.times(Q.of(x)).plus(factor);
            }
            Q[][] shifted = Q.sum(Q.sum(Q.matrix(n, n), Q.of(x), Q.identity(n)), Q.of(-1), a);
            due(sum, value.same(Q.det(shifted)));
        }
        sum = "minpoly(" + Q.text(a) + ")";
        p = Q.parse(shown(sum))[0];
        due(sum, p[0].same(Q.ONE));
        Q[][] value = Q.matrix(n, n);
        Q[][] power = Q.identity(n);
        Q[][] rows = new Q[p.length - 1][];
        for (int k = 0; k < p.length; k++) {
            value = Q.sum(Q.product(value, a), p[k], Q.identity(n));
            if (k < rows.length) {
                rows[k] = Q.parse(Q.text(power).replace("; ", ", "))[0];
                power = Q.product(power, a);
            }
        }
        due(sum, Q.same(value, Q.matrix(n, n)));
        due(sum, rows.length > 0 && Q.rank(rows) == rows.length);
    }

    /** It has the blocks that it must have, and an invertible P with A P = P B is found. */
    private static void frobenius() {
        int n = side(4);
        Q[][] a = RANDOM.nextInt(4) == 0 ? any(n, n, false) : blocks(n);
        String sum = "frobenius(" + Q.text(a) + ")";
        String got = shown(sum);
        if (got.startsWith("-92")) {
            return;
        }
        Q[][] b = Q.parse(got);
        Q[] last = null;
        int from = 0;
        Q[][] rebuilt = Q.matrix(n, n);
        while (from < n) {
            int to = from + 1;
            while (to < n && b[to][to - 1].same(Q.ONE)) {
                rebuilt[to][to - 1] = Q.ONE;
                to++;
            }
            Q[] f = new Q[to - from + 1];
            f[0] = Q.ONE;
            for (int i = from; i < to; i++) {
                rebuilt[i][to - 1] = b[i][to - 1];
                f[to - i] = Q.ZERO.minus(b[i][to - 1]);
            }
            due(sum, last == null || divides(last, f));
            last = f;
            from = to;
        }
        due(sum, Q.same(b, rebuilt));
        due(sum, areSimilar(a, b));
    }

    /** Modulo the greatest primes of 31 bits the forms are others. */
    private static void unluckyPrimes() {
        String[] unlucky = {"2147483647", "2147483629", "2147483587", "2147483647*2147483629", "2147483647*2147483629*2147483587"};
        for (String factors : unlucky) {
            BigInteger p = BigInteger.ONE;
            for (String factor : factors.split("\\*")) {
                p = p.multiply(new BigInteger(factor));
            }
            String block = "0, " + p.negate() + "; 1, " + p.add(BigInteger.ONE);
            Desk.due(factors, shown("frobenius([1,0;0," + p + "])"), "[" + block + "]");
            Desk.due(factors, shown("minpoly([0," + p + ";0,0])"), "[1, 0, 0]");
            Desk.due(factors, shown("minpoly([1," + p + ";0,1])"), "[1, -2, 1]");
            Desk.due(factors, shown("frobenius([0," + p + ";0,0])"), "[0, 0; 1, 0]");
            Desk.due(factors, shown("frobenius([0,1,0,0;0," + p + ",0,0;0,0,0,0;0,0,0," + p + "])"),
                    "[0, 0, 0, 0; 1, " + p + ", 0, 0; 0, 0, 0, 0; 0, 0, 1, " + p + "]");
            Desk.due(factors, shown("frobenius([0,0,0,0;0," + p + ",0,0;0,0,0,1;0,0,0," + p + "])"),
                    "[0, 0, 0, 0; 1, " + p + ", 0, 0; 0, 0, 0, 0; 0, 0, 1, " + p + "]");
            Desk.due(factors, shown("frobenius([0,1,0;0,0,0;0,0," + p + "])"), "[0, 0, 0; 1, 0, 0; 0, 1, " + p + "]");
            Desk.due(factors, shown("charpoly([" + p + ",0;0," + p + "])"), "[1, " + p.add(p).negate() + ", " + p.multiply(p) + "]");
        }
    }

    private static boolean divides(Q[] f, Q[] g) {
        Q[] left = g.clone();
        for (int i = 0; i + f.length <= g.length; i++) {
            Q times = left[i];
            for (int j = 0; j < f.length; j++) {
                left[i + j] = left[i + j].minus(times.times(f[j]));
            }
        }
        return f.length <= g.length && Q.isZero(left);
    }

    private static boolean areSimilar(Q[][] a, Q[][] b) {
        int n = a.length;
        Q[][] equations = Q.matrix(n * n, n * n);
        for (int i = 0; i < n; i++) {
            for (int j = 0; j < n; j++) {
                for (int k = 0; k < n; k++) {
                    equations[i * n + j][k * n + j] = equations[i * n + j][k * n + j].plus(a[i][k]);
                    equations[i * n + j][i * n + k] = equations[i * n + j][i * n + k].minus(b[k][j]);
                }
            }
        }
        Q[][] form = Q.echelon(equations);
        for (int tries = 0; tries < 20; tries++) {
            if (!Q.det(oneSolution(form, n)).isZero()) {
                return true;
            }
        }
        return false;
    }

    private static Q[][] oneSolution(Q[][] form, int n) {
        Q[] x = new Q[n * n];
        for (int j = 0; j < x.length; j++) {
            x[j] = Q.of(RANDOM.nextInt(19) - 9);
        }
        for (int i = form.length - 1; i >= 0; i--) {
            int c = 0;
            while (c < x.length && form[i][c].isZero()) {
                c++;
            }
            if (c < x.length) {
                x[c] = Q.ZERO;
                x[c] = Q.ZERO.minus(Q.dot(form[i], x));
            }
        }
        Q[][] p = Q.matrix(n, n);
        for (int j = 0; j < x.length; j++) {
            p[j / n][j % n] = x[j];
        }
        return p;
    }

    private static void lattices() {
        int n = side(4);
        Q[][] a = any(n, n + RANDOM.nextInt(2), RANDOM.nextBoolean());
        String text = Q.text(a);
        if (Q.rank(a) < n) {
            Desk.due("lll(" + text + ")", shown("lll(" + text + ")"), "-93 5");
            Desk.due("swaps(" + text + ")", shown("swaps(" + text + ")"), "-93 5");
            return;
        }
        Q[][] b = Q.copy(a);
        int swaps = 0;
        int k = 1;
        while (k < n) {
            Q[][] star = atRightAngles(b);
            for (int j = k - 1; j >= 0; j--) {
                Q m = Q.dot(b[k], star[j]).over(Q.dot(star[j], star[j]));
                b[k] = Q.sum(b[k], Q.of(m.nearest().negate()), b[j]);
            }
            Q m = Q.dot(b[k], star[k - 1]).over(Q.dot(star[k - 1], star[k - 1]));
            Q least = new Q(BigInteger.valueOf(3), BigInteger.valueOf(4)).minus(m.times(m)).times(Q.dot(star[k - 1], star[k - 1]));
            if (Q.dot(star[k], star[k]).compare(least) >= 0) {
                k++;
            } else {
                Q[] kept = b[k];
                b[k] = b[k - 1];
                b[k - 1] = kept;
                swaps++;
                k = Math.max(k - 1, 1);
            }
        }
        due("lll(" + text + ")", b);
        due("swaps(" + text + ")", new Q[][] {{Q.of(swaps)}});
    }

    private static Q[][] atRightAngles(Q[][] b) {
        Q[][] star = Q.copy(b);
        for (int i = 0; i < b.length; i++) {
            for (int j = 0; j < i; j++) {
                star[i] = Q.sum(star[i], Q.ZERO.minus(Q.dot(b[i], star[j]).over(Q.dot(star[j], star[j]))), star[j]);
            }
        }
        return star;
    }

    /** Limbs of nothing but ones and noughts, where carries and guessed digits go wrong first. */
    private static void longNumbers() {
        for (int round = 0; round < 400; round++) {
            Q x = new Q(pattern(), pattern());
            Q y = new Q(pattern(), pattern());
            String both = "(" + x + ")*(" + y + ")";
            due(both, new Q[][] {{x.times(y)}});
            due("(" + x + ")/(" + y + ")", new Q[][] {{x.over(y)}});
            due("(" + x + ")-(" + y + ")", new Q[][] {{x.minus(y)}});
        }
    }

    private static BigInteger pattern() {
        BigInteger number = BigInteger.ONE.shiftLeft(RANDOM.nextInt(900));
        for (int i = 0; i < 3; i++) {
            BigInteger part = BigInteger.ONE.shiftLeft(31 * RANDOM.nextInt(29) + RANDOM.nextInt(3));
            number = RANDOM.nextBoolean() ? number.add(part) : number.subtract(part);
        }
        return number.signum() <= 0 ? number.negate().add(BigInteger.ONE) : number;
    }
}
