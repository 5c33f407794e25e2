import java.util.Arrays;

/** Runs scripts of exact linear algebra; README.md says how it is used. */
public final class MatrixScripts {
    public static final int NONE = -1;

    private static final int TAPE_BYTES = 65536;
    private static final int FED_BYTES = 20;
    private static final Called[] CALLED = Called.values();

    private final Script script;
    private final Tape tape;
    private final Page page;

    public MatrixScripts() {
        script = new Script();
        tape = script.tape;
        page = script.page;
    }

    public int feed(int a, int b, int c, int d, int e) throws IllegalStateException {
        if (tape.bytes + FED_BYTES > TAPE_BYTES) {
            throw new IllegalStateException();
        }
        tape.put(a);
        tape.put(b);
        tape.put(c);
        tape.put(d);
        tape.put(e);
        return tape.bytes;
    }

    public void end(int n) throws IllegalArgumentException {
        if (n < 0 || n > tape.bytes) {
            throw new IllegalArgumentException();
        }
        tape.bytes = n;
    }

    public int run() {
        script.begin();
        try {
            script.read();
        } catch (IllegalStateException notAScript) {
            script.dropCode();
        }
        for (int i = 0; i < script.codes && script.fault == 0; i++) {
            script.perform(i);
        }
        tape.bytes = 0;
        return script.fault == 0 ? script.done : script.fault - 100;
    }

    public int place() {
        return script.faultPlace;
    }

    public int length() {
        return page.bytes;
    }

    public int shown(int i) throws IndexOutOfBoundsException {
        if (i < 0 || i >= page.bytes) {
            throw new IndexOutOfBoundsException();
        }
        return page.byteAt(i);
    }

    public int wipe() {
        int had = page.bytes;
        page.bytes = 0;
        return had;
    }

    public int forget() {
        return script.kept.clear();
    }

    public int told(int what) {
        switch (what) {
            case 0:
                return script.kept.count;
            case 1:
                return script.kept.limbs;
            case 2:
                return script.doneInAll;
            case 3:
                return tape.bytes;
            default:
                return NONE;
        }
    }

    /** The names that are called: how many values they take, how many numbers behind ; and of which shape. */
    private enum Called {
        DET("det", 1, 0, 1, true, true),
        TRACE("trace", 1, 0, 0, true, false),
        RANK("rank", 1, 0, 1, false, true),
        ROWS("rows", 1, 0, 0, false, false),
        COLUMNS("columns", 1, 0, 0, false, false),
        ECHELON("echelon", 1, 0, 1, false, true),
        KERNEL("kernel", 1, 0, 1, false, true),
        INVERSE("inverse", 1, 0, 1, true, true),
        SOLVE("solve", 2, 0, 1, false, true),
        MOD("mod", 1, 1, 1, false, false),
        HERMITE("hermite", 1, 0, 0, false, true),
        SMITH("smith", 1, 0, 0, false, true),
        CHARPOLY("charpoly", 1, 0, 0, true, true),
        MINPOLY("minpoly", 1, 0, 0, true, true),
        FROBENIUS("frobenius", 1, 0, 0, true, true),
        LLL("lll", 1, 0, 0, false, true),
        SWAPS("swaps", 1, 0, 0, false, true),
        ID("id", 0, 1, 1, false, false),
        ZERO("zero", 0, 2, 2, false, false),
        PART("part", 1, 4, 4, false, false);

        final String word;
        final int values;
        final int fewest;
        final int most;
        final boolean square;
        final boolean heavy;

        Called(String word, int values, int fewest, int most, boolean square, boolean heavy) {
            this.word = word;
            this.values = values;
            this.fewest = fewest;
            this.most = most;
            this.square = square;
            this.heavy = heavy;
        }
    }

    /** The bytes that were fed, four to an int, and the word of them that is being read. */
    private static final class Tape {
        static final int END = 0;
        static final int NAME = 1;
        static final int NUMBER = 2;
        static final int SHOW = 3;
        static final int CHECK = 4;
        static final int NAME_BYTES = 40;
        static final int NUMBER_BYTES = 600;
        static final String SIGNS = "+-*/^'()[],;=";

        int[] words = new int[64];
        int bytes;
        int kind;
        int start;
        int after;

        void put(int four) {
            if (words.length <= bytes + 3 >> 2) {
                words = Arrays.copyOf(words, 2 * words.length);
            }
            for (int shift = 24; shift >= 0; shift -= 8) {
                int low = 24 - 8 * (bytes & 3);
                int old = words[bytes >> 2] & ~(255 << low);
                words[bytes >> 2] = old | ((four >>> shift) & 255) << low;
                bytes++;
            }
        }

        int byteAt(int i) {
            return i < 0 || i >= bytes ? NONE : (words[i >> 2] >>> (24 - 8 * (i & 3))) & 255;
        }

        /** Reads the next word, whose kind is one of the constants or the sign itself; false: it is none. */
        boolean next() {
            start = behindBlanks(after);
            after = start;
            int first = byteAt(start);
            if (first == NONE) {
                kind = END;
                return true;
            }
            if (isLetter(first)) {
                after = behindWord(start, true);
                kind = is(start, after, "show") ? SHOW : is(start, after, "check") ? CHECK : NAME;
                return after - start <= NAME_BYTES;
            }
            if (isDigit(first)) {
                after = behindWord(start, false);
                kind = NUMBER;
                int behind = byteAt(after);
                return after - start <= NUMBER_BYTES && !isLetter(behind) && behind != '_';
            }
            kind = first;
            after = start + 1;
            return SIGNS.indexOf((char) first) >= 0;
        }

        boolean is(int from, int to, String text) {
            boolean same = to - from == text.length();
            for (int i = from; i < to && same; i++) {
                same = byteAt(i) == text.charAt(i - from);
            }
            return same;
        }

        /** The number told there, or one beyond all that are allowed behind ; or ^. */
        long number(int from) {
            long value = 0;
            int to = behindWord(from, false);
            for (int i = from; i < to; i++) {
                value = value > Integer.MAX_VALUE ? value : 10 * value + byteAt(i) - '0';
            }
            return value;
        }

        private int behindBlanks(int from) {
            boolean comment = false;
            int i = from;
            for (; i < bytes; i++) {
                int b = byteAt(i);
                if (comment) {
                    comment = b != 10;
                } else if (b == '#') {
                    comment = true;
                } else if (b != 9 && b != 10 && b != 13 && b != 32) {
                    break;
                }
            }
            return i;
        }

        /** Where the name or the number that begins there ends. */
        int behindWord(int from, boolean name) {
            int i = from;
            for (; i < bytes; i++) {
                int b = byteAt(i);
                if (!isDigit(b) && !(name && (isLetter(b) || b == '_'))) {
                    break;
                }
            }
            return i;
        }

        private static boolean isLetter(int b) {
            return b >= 'a' && b <= 'z' || b >= 'A' && b <= 'Z';
        }

        private static boolean isDigit(int b) {
            return b >= '0' && b <= '9';
        }
    }

    /** What was shown, four bytes to an int. */
    private static final class Page {
        static final int PAGE_BYTES = 200000;
        static final int CHUNK = 1000000000;

        int[] words = new int[64];
        int bytes;
        private final Whole upper = new Whole();
        private final Whole lower = new Whole();
        private final int[] chunks = new int[160];

        int byteAt(int i) {
            return (words[i >> 2] >>> (24 - 8 * (i & 3))) & 255;
        }

        /** Writes the value, or nothing when the page would be too long: false. */
        boolean show(Matrix m, Calc calc) {
            int before = bytes;
            put('[');
            for (int i = 0; i < m.rows * m.columns && bytes <= PAGE_BYTES; i++) {
                if (i > 0) {
                    put(i % m.columns == 0 ? ';' : ',');
                    put(' ');
                }
                fraction(m.cell(i), m.common, calc);
            }
            put(']');
            put(10);
            if (bytes > PAGE_BYTES) {
                bytes = before;
                return false;
            }
            return true;
        }

        private void fraction(Whole cell, Whole common, Calc calc) {
            if (common.isOne()) {
                upper.set(cell);
                digits(upper);
                return;
            }
            Whole divisor = calc.gcd(cell, common, false);
            calc.divide(upper, cell, divisor);
            calc.divide(lower, common, divisor);
            boolean whole = lower.isOne();
            digits(upper);
            if (!whole) {
                put('/');
                digits(lower);
            }
        }

        /** Writes the number, which is 0 afterwards. */
        private void digits(Whole number) {
            if (number.below) {
                put('-');
            }
            int count = 0;
            for (; count < chunks.length && number.size > 0; count++) {
                chunks[count] = number.divideSmall(CHUNK);
            }
            if (count == 0) {
                put('0');
            }
            boolean begun = false;
            for (int i = count - 1; i >= 0; i--) {
                for (int unit = CHUNK / 10; unit > 0; unit /= 10) {
                    int digit = chunks[i] / unit % 10;
                    begun = begun || digit != 0;
                    if (begun) {
                        put('0' + digit);
                    }
                }
            }
        }

        private void put(int b) {
            // what is beyond the limit is only counted: show takes it back
            if (bytes < PAGE_BYTES) {
                if (words.length <= bytes >> 2) {
                    words = Arrays.copyOf(words, Math.min(PAGE_BYTES / 4, 2 * words.length));
                }
                int low = 24 - 8 * (bytes & 3);
                words[bytes >> 2] = words[bytes >> 2] & ~(255 << low) | b << low;
            }
            bytes++;
        }
    }

    /**
     * Values packed one behind the other: how many ints, rows, columns, limbs, whether it begins a
     * row within [ ], then COMMON and the cells: of each its size and sign, and its limbs.
     */
    private static final class Values {
        static final int HEAD = 5;
        static final int ROW_MARK = 4;

        int count;
        int cells;
        int limbs;
        private int[] data = new int[256];
        private int[] starts = new int[16];
        private int used;

        int clear() {
            int had = count;
            count = 0;
            cells = 0;
            limbs = 0;
            used = 0;
            return had;
        }

        int rowsOf(int value) {
            return data[starts[value] + 1];
        }

        int columnsOf(int value) {
            return data[starts[value] + 2];
        }

        int limbsOf(int value) {
            return data[starts[value] + 3];
        }

        boolean beginsRow(int value) {
            return data[starts[value] + ROW_MARK] == 1;
        }

        void beginRow(int value) {
            data[starts[value] + ROW_MARK] = 1;
        }

        void push(Matrix m) {
            int size = HEAD + 1 + m.common.size;
            for (int i = 0; i < m.rows * m.columns; i++) {
                size += 1 + m.cell(i).size;
            }
            int at = add(size);
            data[at] = size;
            data[at + 1] = m.rows;
            data[at + 2] = m.columns;
            data[at + 3] = m.limbs;
            data[at + ROW_MARK] = 0;
            int to = pack(m.common, at + HEAD);
            for (int i = 0; i < m.rows * m.columns; i++) {
                to = pack(m.cell(i), to);
            }
            reckon(at, 1);
        }

        void pushFrom(Values other, int value) {
            int from = other.starts[value];
            int size = other.data[from];
            int to = add(size);
            System.arraycopy(other.data, from, data, to, size);
            data[to + ROW_MARK] = 0;
            reckon(to, 1);
        }

        /** Takes the latest ones off. */
        void drop(int values) {
            for (int i = 0; i < values && count > 0; i++) {
                count--;
                used = starts[count];
                reckon(used, -1);
            }
        }

        /** Takes one off; those behind it move up. */
        void cutOut(int value) {
            int from = starts[value];
            int size = data[from];
            reckon(from, -1);
            System.arraycopy(data, from + size, data, from, used - from - size);
            used -= size;
            count--;
            for (int i = value; i < count; i++) {
                starts[i] = starts[i + 1] - size;
            }
        }

        void load(int value, Matrix m) {
            int at = starts[value];
            m.shape(data[at + 1], data[at + 2]);
            at = unpack(m.common, at + HEAD);
            for (int i = 0; i < m.rows * m.columns; i++) {
                at = unpack(m.cell(i), at);
            }
        }

        void loadCommon(int value, Whole common) {
            unpack(common, starts[value] + HEAD);
        }

        /** A value can be packed in one way only, so that those that are the same have the same ints. */
        boolean same(int first, int second) {
            int a = starts[first];
            int b = starts[second];
            boolean same = data[a] == data[b];
            for (int i = 0; i < data[a] && same; i++) {
                same = i == ROW_MARK || data[a + i] == data[b + i];
            }
            return same;
        }

        private int add(int size) {
            if (data.length < used + size) {
                data = Arrays.copyOf(data, Math.max(used + size, 2 * data.length));
            }
            if (starts.length == count) {
                starts = Arrays.copyOf(starts, 2 * count);
            }
            starts[count] = used;
            count++;
            used += size;
            return used - size;
        }

        private void reckon(int at, int times) {
            cells += times * data[at + 1] * data[at + 2];
            limbs += times * data[at + 3];
        }

        private int pack(Whole number, int at) {
            data[at] = number.size << 1 | (number.below ? 1 : 0);
            System.arraycopy(number.limbs, 0, data, at + 1, number.size);
            return at + 1 + number.size;
        }

        private int unpack(Whole number, int at) {
            int size = data[at] >> 1;
            number.room(size);
            System.arraycopy(data, at + 1, number.limbs, 0, size);
            number.size = size;
            number.below = (data[at] & 1) == 1;
            return at + 1 + size;
        }
    }

    /** A matrix to work on: whole cells over COMMON; its numbers are made once and used again. */
    private static final class Matrix {
        static final int SIDE = 64;
        static final int CELLS = 1024;
        static final int BITS = 4000;
        static final int LIMBS = 20000;

        int rows;
        int columns;
        int limbs;
        final Whole common = new Whole();
        private Whole[] cells = new Whole[16];
        private int made;

        static boolean allows(int rows, int columns) {
            return rows <= SIDE && columns <= SIDE && rows * columns <= CELLS;
        }

        void shape(int rowCount, int columnCount) {
            rows = rowCount;
            columns = columnCount;
            int count = rowCount * columnCount;
            if (cells.length < count) {
                Whole[] more = new Whole[Math.max(count, 2 * cells.length)];
                for (int i = 0; i < made; i++) {
                    more[i] = cells[i];
                }
                cells = more;
            }
            for (; made < count; made++) {
                cells[made] = new Whole();
            }
        }

        /** Cells of 0 over 1. */
        void blank(int rowCount, int columnCount) {
            shape(rowCount, columnCount);
            common.setLong(1);
            for (int i = 0; i < rowCount * columnCount; i++) {
                cell(i).setLong(0);
            }
        }

        void identity(int side) {
            blank(side, side);
            for (int i = 0; i < side; i++) {
                at(i, i).setLong(1);
            }
        }

        void single(long value) {
            shape(1, 1);
            common.setLong(1);
            cell(0).setLong(value);
        }

        void copy(Matrix other) {
            shape(other.rows, other.columns);
            common.set(other.common);
            for (int i = 0; i < rows * columns; i++) {
                cell(i).set(other.cell(i));
            }
        }

        Whole at(int row, int column) {
            return cell(row * columns + column);
        }

        Whole cell(int i) {
            return cells[i];
        }

        void exchange(int i, int j) {
            Whole kept = cells[i];
            cells[i] = cells[j];
            cells[j] = kept;
        }

        void exchangeRows(int i, int j) {
            for (int c = 0; c < columns && i != j; c++) {
                exchange(i * columns + c, j * columns + c);
            }
        }

        int longest() {
            int bits = common.bits();
            for (int i = 0; i < rows * columns; i++) {
                bits = Math.max(bits, cell(i).bits());
            }
            return bits;
        }

        /** Brings COMMON above 0 and all to least terms, and counts the limbs; false: it is too long for a value. */
        boolean becomesValue(Calc calc, Whole divisor) {
            boolean turn = common.below;
            divisor.set(common);
            divisor.below = false;
            for (int i = 0; i < rows * columns && !divisor.isOne(); i++) {
                divisor.set(calc.gcd(divisor, cell(i), false));
            }
            boolean least = divisor.isOne();
            boolean fits = true;
            limbs = 0;
            for (int i = -1; i < rows * columns; i++) {
                Whole number = i < 0 ? common : cell(i);
                if (!least) {
                    calc.divide(number, number, divisor);
                }
                number.below = number.size > 0 && number.below != turn;
                int bits = number.bits();
                limbs += (bits + 31) / 32;
                fits = fits && bits <= BITS;
            }
            return fits && limbs <= LIMBS;
        }
    }

    /** A whole number of any length, changed in place. Limbs have 31 bits, so that what they make fits a long. */
    private static final class Whole {
        static final int MASK = 0x7fffffff;
        static final int BITS = 31;

        int[] limbs = new int[3];
        int size;
        boolean below;

        void room(int count) {
            if (limbs.length < count) {
                limbs = Arrays.copyOf(limbs, Math.max(count, 2 * limbs.length));
            }
        }

        void set(Whole other) {
            if (limbs.length < other.size) {
                limbs = new int[Math.max(other.size, 2 * limbs.length)];
            }
            System.arraycopy(other.limbs, 0, limbs, 0, other.size);
            size = other.size;
            below = other.below;
        }

        void setLong(long value) {
            below = value < 0;
            long left = value < 0 ? -value : value;
            for (size = 0; size < 3 && left != 0; size++) {
                limbs[size] = (int) left & MASK;
                left >>>= BITS;
            }
        }

        /** The size of one that has two limbs at most. */
        long value() {
            long high = size > 1 ? limbs[1] : 0;
            return high << BITS | (size > 0 ? limbs[0] : 0);
        }

        boolean isOne() {
            return size == 1 && limbs[0] == 1 && !below;
        }

        int bits() {
            return size == 0 ? 0 : size * BITS + 1 - Integer.numberOfLeadingZeros(limbs[size - 1]);
        }

        int compareSize(Whole other) {
            if (size != other.size) {
                return size < other.size ? -1 : 1;
            }
            for (int i = size - 1; i >= 0; i--) {
                if (limbs[i] != other.limbs[i]) {
                    return limbs[i] < other.limbs[i] ? -1 : 1;
                }
            }
            return 0;
        }

        void add(Whole a, Whole b) {
            sum(a, b, false);
        }

        void subtract(Whole a, Whole b) {
            sum(a, b, true);
        }

        void sum(Whole a, Whole b, boolean minus) {
            boolean otherBelow = b.below != minus;
            boolean together = a.below == otherBelow;
            boolean ahead = a.compareSize(b) >= 0;
            Whole more = ahead ? a : b;
            Whole less = ahead ? b : a;
            int count = more.size;
            int part = less.size;
            below = ahead ? a.below : otherBelow;
            if (limbs.length <= count) {
                limbs = Arrays.copyOf(limbs, Math.max(count + 1, 2 * limbs.length));
            }
            int carry = 0;
            for (int i = 0; i < count; i++) {
                int other = (i < part ? less.limbs[i] : 0) + carry;
                int t = more.limbs[i] + (together ? other : -other);
                limbs[i] = t & MASK;
                carry = t >>> BITS;
            }
            limbs[count] = carry;
            size = carry == 0 ? count : count + 1;
            for (int i = size; i > 0 && limbs[i - 1] == 0; i--) {
                size = i - 1;
            }
            below = below && size > 0;
        }

        private void trim() {
            for (int i = size; i > 0 && limbs[i - 1] == 0; i--) {
                size = i - 1;
            }
            below = below && size > 0;
        }

        /** Becomes a b; it is neither of them itself. */
        void multiply(Whole a, Whole b) {
            int first = a.size;
            int second = b.size;
            int count = first + second;
            if (limbs.length < count) {
                limbs = new int[Math.max(count, 2 * limbs.length)];
            }
            Arrays.fill(limbs, 0, count, 0);
            int[] to = limbs;
            int[] by = b.limbs;
            for (int i = 0; i < first; i++) {
                // at most (2^31 - 1)^2 and two limbs more, which is below 2^62
                long factor = a.limbs[i];
                long carry = 0;
                for (int j = 0; j < second; j++) {
                    carry += factor * by[j] + to[i + j];
                    to[i + j] = (int) carry & MASK;
                    carry >>>= BITS;
                }
                to[i + second] = (int) carry;
            }
            size = count;
            below = a.below != b.below;
            trim();
        }

        /** Becomes itself times a factor from 0 on, its size more by what is added. */
        void multiplySmall(int factor, int added) {
            room(size + 1);
            long carry = added;
            for (int i = 0; i < size; i++) {
                carry += (long) factor * limbs[i];
                limbs[i] = (int) carry & MASK;
                carry >>>= BITS;
            }
            limbs[size] = (int) carry;
            size++;
            trim();
        }

        /** Divides its size by a number above 0, whose rest is answered. */
        int divideSmall(int divisor) {
            long rest = 0;
            int count = 0;
            for (int i = size - 1; i >= 0; i--) {
                rest = rest << BITS | limbs[i];
                limbs[i] = (int) (rest / divisor);
                rest %= divisor;
                count = count == 0 && limbs[i] != 0 ? i + 1 : count;
            }
            size = count;
            below = below && size > 0;
            return (int) rest;
        }

        /** From 0 to below the modulus. */
        int modulo(int modulus) {
            long rest = 0;
            for (int i = size - 1; i >= 0; i--) {
                rest = (rest << BITS | limbs[i]) % modulus;
            }
            return (int) (below && rest != 0 ? modulus - rest : rest);
        }

        /** Becomes fa a + fb b, the factors of less than 32 bits; it is neither of them itself. */
        void mix(Whole a, long fa, Whole b, long fb) {
            int count = Math.max(a.size, b.size) + 2;
            if (limbs.length < count) {
                limbs = new int[Math.max(count, 2 * limbs.length)];
            }
            long ea = a.below ? -fa : fa;
            long eb = b.below ? -fb : fb;
            long carry = 0;
            for (int i = 0; i < count; i++) {
                carry += i < a.size ? ea * a.limbs[i] : 0;
                carry += i < b.size ? eb * b.limbs[i] : 0;
                limbs[i] = (int) carry & MASK;
                carry >>= BITS;
            }
            below = carry < 0;
            int one = 1;
            size = 0;
            for (int i = 0; i < count; i++) {
                if (below) {
                    int t = (limbs[i] ^ MASK) + one;
                    limbs[i] = t & MASK;
                    one = t >>> BITS;
                }
                size = limbs[i] == 0 ? size : i + 1;
            }
        }

        /** Becomes the size of the other times 2^shift, shift below 31, with one limb more, be it 0. */
        void shiftUp(Whole other, int shift) {
            int count = other.size;
            if (limbs.length <= count) {
                limbs = new int[Math.max(count + 1, 2 * limbs.length)];
            }
            int carry = 0;
            for (int i = 0; i < count; i++) {
                long t = (long) other.limbs[i] << shift | carry;
                limbs[i] = (int) t & MASK;
                carry = (int) (t >>> BITS);
            }
            limbs[count] = carry;
            size = count + 1;
            below = false;
        }

        /** Keeps so many limbs, divided by 2^shift. */
        void shiftDown(int count, int shift) {
            size = 0;
            for (int i = 0; i < count; i++) {
                long high = i + 1 < count ? limbs[i + 1] : 0;
                limbs[i] = (int) ((high << BITS | limbs[i]) >>> shift) & MASK;
                size = limbs[i] == 0 ? size : i + 1;
            }
        }

        /** Its highest 62 bits, if it had that many bits in all. */
        long top(int bits) {
            int shift = Math.max(0, bits - 2 * BITS);
            int from = shift / BITS;
            int low = shift % BITS;
            long first = from < size ? limbs[from] : 0;
            long second = from + 1 < size ? limbs[from + 1] : 0;
            long third = from + 2 < size ? limbs[from + 2] : 0;
            return first >> low | second << (BITS - low) | third << (2 * BITS - low);
        }
    }

    /** What needs room beside the numbers themselves: divisions and greatest common divisors. */
    private static final class Calc {
        static final int ROUNDS = 1000000;

        /** What the latest division left, with the sign of what was divided. */
        Whole rest = new Whole();
        /** What the first number of the latest gcd that kept track is to be multiplied with. */
        Whole cofactor = new Whole();
        private Whole otherCofactor = new Whole();
        private Whole x = new Whole();
        private Whole y = new Whole();
        private Whole spareX = new Whole();
        private Whole spareY = new Whole();
        private final Whole quotient = new Whole();
        private Whole u = new Whole();
        private final Whole v = new Whole();
        private long fa;
        private long fb;
        private long fc;
        private long fd;

        /** q becomes a over b, cut towards 0 (0 for b = 0); q may be one of them. */
        void divide(Whole q, Whole a, Whole b) {
            boolean below = a.below != b.below;
            boolean restBelow = a.below;
            if (b.size == 0 || a.compareSize(b) < 0) {
                rest.set(a);
                q.setLong(0);
                return;
            }
            if (a.size <= 2) {
                long upper = a.value();
                long lower = b.value();
                q.setLong(upper / lower);
                rest.setLong(upper % lower);
            } else if (b.size == 1) {
                int lower = b.limbs[0];
                q.set(a);
                rest.setLong(q.divideSmall(lower));
            } else {
                int n = b.size;
                int m = a.size - n;
                int shift = Integer.numberOfLeadingZeros(b.limbs[n - 1]) - 1;
                u.shiftUp(a, shift);
                v.shiftUp(b, shift);
                q.room(m + 1);
                for (int j = m; j >= 0; j--) {
                    q.limbs[j] = digit(j, n);
                }
                q.size = m + 1;
                q.trim();
                u.shiftDown(n, shift);
                Whole kept = rest;
                rest = u;
                u = kept;
            }
            q.below = below && q.size > 0;
            rest.below = restBelow && rest.size > 0;
        }

        /** One digit of u over v, taken off u (Knuth's algorithm D). */
        private int digit(int j, int n) {
            int[] from = u.limbs;
            int[] by = v.limbs;
            long high = by[n - 1];
            long top = (long) from[j + n] << Whole.BITS | from[j + n - 1];
            long guess = top / high;
            long left = top - guess * high;
            for (int i = 0; i < 3 && left <= Whole.MASK
                    && (guess > Whole.MASK || guess * by[n - 2] > (left << Whole.BITS | from[j + n - 2])); i++) {
                guess--;
                left += high;
            }
            long carry = 0;
            int borrow = 0;
            for (int i = 0; i < n; i++) {
                carry += guess * by[i];
                int t = from[i + j] - ((int) carry & Whole.MASK) - borrow;
                from[i + j] = t & Whole.MASK;
                borrow = t >>> Whole.BITS;
                carry >>>= Whole.BITS;
            }
            int last = from[j + n] - (int) carry - borrow;
            from[j + n] = last & Whole.MASK;
            if (last < 0) {
                guess--;
                int back = 0;
                for (int i = 0; i < n; i++) {
                    int t = from[i + j] + by[i] + back;
                    from[i + j] = t & Whole.MASK;
                    back = t >>> Whole.BITS;
                }
                from[j + n] = from[j + n] + back & Whole.MASK;
            }
            return (int) guess;
        }

        /** The greatest common divisor, kept till the next one is asked for; with track also the cofactor of a. */
        Whole gcd(Whole a, Whole b, boolean track) {
            boolean turn = a.compareSize(b) < 0;
            x.set(turn ? b : a);
            y.set(turn ? a : b);
            x.below = false;
            y.below = false;
            cofactor.setLong(turn ? 0 : 1);
            otherCofactor.setLong(turn ? 1 : 0);
            for (int round = 0; round < ROUNDS && y.size > 0; round++) {
                if (x.size <= 2 && !track) {
                    x.setLong(smallGcd(x.value(), y.value()));
                    y.setLong(0);
                    continue;
                }
                lehmer();
                if (fb == 0) {
                    divide(quotient, x, y);
                    Whole kept = x;
                    x = y;
                    y = rest;
                    rest = kept;
                    if (track) {
                        spareX.multiply(quotient, otherCofactor);
                        cofactor.sum(cofactor, spareX, true);
                        kept = cofactor;
                        cofactor = otherCofactor;
                        otherCofactor = kept;
                    }
                } else {
                    mixBoth(track);
                }
            }
            if (track && a.below) {
                cofactor.below = cofactor.size > 0 && !cofactor.below;
            }
            return x;
        }

        private void mixBoth(boolean track) {
            spareX.mix(x, fa, y, fb);
            spareY.mix(x, fc, y, fd);
            Whole kept = x;
            x = spareX;
            spareX = kept;
            kept = y;
            y = spareY;
            spareY = kept;
            if (track) {
                spareX.mix(cofactor, fa, otherCofactor, fb);
                spareY.mix(cofactor, fc, otherCofactor, fd);
                kept = cofactor;
                cofactor = spareX;
                spareX = kept;
                kept = otherCofactor;
                otherCofactor = spareY;
                spareY = kept;
            }
        }

        /** Steps of Euclid's that the highest bits of x and y settle, as factors for x and y (Knuth's algorithm L). */
        private void lehmer() {
            int bits = x.bits();
            boolean exact = bits <= 2 * Whole.BITS;
            long p = x.top(bits);
            long q = y.top(bits);
            fa = 1;
            fb = 0;
            fc = 0;
            fd = 1;
            for (int step = 0; step < 100; step++) {
                if (exact ? q == 0 : q + fc == 0 || q + fd == 0) {
                    break;
                }
                long n = exact ? p / q : (p + fa) / (q + fc);
                if (n > Whole.MASK || !exact && n != (p + fb) / (q + fd)) {
                    break;
                }
                long c = fa - n * fc;
                long d = fb - n * fd;
                if (Math.abs(c) > Whole.MASK || Math.abs(d) > Whole.MASK) {
                    break;
                }
                fa = fc;
                fb = fd;
                fc = c;
                fd = d;
                long left = p - n * q;
                p = q;
                q = left;
            }
        }

        private static long smallGcd(long a, long b) {
            long x = a;
            long y = b;
            for (int step = 0; step < 200 && y != 0; step++) {
                long left = x % y;
                x = y;
                y = left;
            }
            return x;
        }

        /** r becomes a modulo m, from 0 to below m. */
        void modulo(Whole r, Whole a, Whole m) {
            if (!a.below && a.compareSize(m) < 0) {
                r.set(a);
                return;
            }
            divide(quotient, a, m);
            if (rest.below) {
                r.sum(rest, m, false);
            } else {
                r.set(rest);
            }
        }
    }

    /**
     * Reads the tape's script by its grammar, which makes code of it, and then does this. Code is two
     * ints for each thing to do, in the order in which they are done: its place in the tape and what
     * it is, and a number that belongs to it.
     */
    private static final class Script {
        static final int DEPTH = 30;
        static final int NAMES = 200;
        static final int KEPT_LIMBS = 30000;
        static final int KEPT_CELLS = 20000;
        static final int KEY = 10;
        static final int CODE_BITS = 5;
        static final int NUMBER = 0;
        static final int TELL = 1;
        static final int FIND_CALLED = 2;
        static final int NUMBER_BEHIND = 3;
        static final int CALL = 4;
        static final int BEGIN_ROW = 5;
        static final int JOIN = 6;
        static final int NEGATE = 7;
        static final int ADD = 8;
        static final int SUBTRACT = 9;
        static final int MULTIPLY = 10;
        static final int DIVIDE = 11;
        static final int TRANSPOSE = 12;
        static final int POWER = 13;
        static final int CLAIM = 14;
        static final int GIVE = 15;
        static final int SHOW = 16;
        static final int CHECK = 17;

        final Tape tape = new Tape();
        final Page page = new Page();
        /** The values of names; their letters are in keys, four to an int, in the same order. */
        final Values kept = new Values();
        int codes;
        int done;
        int doneInAll;
        int fault;
        int faultPlace = NONE;
        private final Maker maker = new Maker();
        private final Values hand = maker.hand;
        private final int[] key = new int[KEY];
        private int[] keys = new int[16 * KEY];
        private final long[] numbers = new long[4];
        private int numberCount;
        private int numberPlace;
        private int[] code = new int[64];
        private int depth;

        void begin() {
            done = 0;
            fault = 0;
            faultPlace = NONE;
            maker.steps = 0;
            hand.clear();
            numberCount = 0;
            codes = 0;
            depth = 0;
            tape.after = 0;
        }

        void dropCode() {
            codes = 0;
        }

        void read() {
            advance();
            for (int words = 0; words <= TAPE_BYTES && tape.kind != Tape.END; words++) {
                int at = tape.start;
                int kind = tape.kind;
                if (kind != Tape.SHOW && kind != Tape.CHECK && kind != Tape.NAME) {
                    fail(2, at);
                }
                advance();
                if (kind == Tape.NAME) {
                    take('=');
                    emit(CLAIM, at, 0);
                }
                sum();
                if (kind == Tape.CHECK) {
                    take('=');
                    sum();
                }
                take(';');
                emit(kind == Tape.SHOW ? SHOW : kind == Tape.CHECK ? CHECK : GIVE, at, 0);
            }
        }

        private void sum() {
            boolean minus = tape.kind == '-';
            int at = tape.start;
            if (minus) {
                advance();
            }
            term();
            if (minus) {
                emit(NEGATE, at, 0);
            }
            for (int words = 0; words <= TAPE_BYTES && (tape.kind == '+' || tape.kind == '-'); words++) {
                int sign = tape.kind == '+' ? ADD : SUBTRACT;
                at = tape.start;
                advance();
                term();
                emit(sign, at, 0);
            }
        }

        private void term() {
            factor();
            for (int words = 0; words <= TAPE_BYTES && (tape.kind == '*' || tape.kind == '/'); words++) {
                int sign = tape.kind == '*' ? MULTIPLY : DIVIDE;
                int at = tape.start;
                advance();
                factor();
                emit(sign, at, 0);
            }
        }

        private void factor() {
            atom();
            for (int words = 0; words <= TAPE_BYTES && (tape.kind == '\'' || tape.kind == '^'); words++) {
                int at = tape.start;
                boolean raised = tape.kind == '^';
                advance();
                if (!raised) {
                    emit(TRANSPOSE, at, 0);
                    continue;
                }
                boolean minus = tape.kind == '-';
                if (minus) {
                    advance();
                }
                emit(POWER, at, tape.start << 1 | (minus ? 1 : 0));
                take(Tape.NUMBER);
            }
        }

        private void atom() {
            int at = tape.start;
            switch (tape.kind) {
                case Tape.NUMBER:
                    emit(NUMBER, at, 0);
                    advance();
                    break;
                case Tape.NAME:
                    advance();
                    if (tape.kind == '(') {
                        call(at);
                    } else {
                        emit(TELL, at, 0);
                    }
                    break;
                case '(':
                    open();
                    sum();
                    take(')');
                    depth--;
                    break;
                case '[':
                    join(at);
                    break;
                default:
                    fail(2, at);
                    break;
            }
        }

        private void call(int at) {
            emit(FIND_CALLED, at, 0);
            open();
            int values = 0;
            for (int before = tape.kind == ')' || tape.kind == ';' ? NONE : ','; values <= TAPE_BYTES && before == ','; values++) {
                sum();
                before = tape.kind;
                if (before == ',') {
                    advance();
                }
            }
            int sign = ';';
            for (int words = 0; words <= TAPE_BYTES && tape.kind == sign; words++) {
                advance();
                emit(NUMBER_BEHIND, tape.start, 0);
                take(Tape.NUMBER);
                sign = ',';
            }
            take(')');
            depth--;
            emit(CALL, at, values);
        }

        private void join(int at) {
            open();
            int before = ';';
            int values = 0;
            for (; values <= TAPE_BYTES && (before == ',' || before == ';'); values++) {
                sum();
                if (before == ';') {
                    emit(BEGIN_ROW, at, 0);
                }
                before = tape.kind;
                if (before == ',' || before == ';') {
                    advance();
                }
            }
            take(']');
            depth--;
            emit(JOIN, at, values);
        }

        private void open() {
            if (depth == DEPTH) {
                fail(2, tape.start);
            }
            depth++;
            advance();
        }

        private void take(int kind) {
            if (tape.kind != kind) {
                fail(2, tape.start);
            }
            advance();
        }

        private void advance() {
            if (!tape.next()) {
                fail(1, tape.start);
            }
        }

        private void fail(int told, int at) {
            fault = told;
            faultPlace = at;
            throw new IllegalStateException();
        }

        private void emit(int what, int at, int number) {
            if (code.length < 2 * codes + 2) {
                code = Arrays.copyOf(code, 2 * code.length);
            }
            code[2 * codes] = at << CODE_BITS | what;
            code[2 * codes + 1] = number;
            codes++;
        }

        void perform(int i) {
            int what = code[2 * i] & (1 << CODE_BITS) - 1;
            int at = code[2 * i] >> CODE_BITS;
            int number = code[2 * i + 1];
            int told = 0;
            switch (what) {
                case NUMBER:
                    told = maker.number(tape, at);
                    break;
                case TELL:
                    told = tell(at);
                    break;
                case FIND_CALLED:
                    told = called(at) == null ? 3 : 0;
                    break;
                case NUMBER_BEHIND:
                    noteNumber(at);
                    break;
                case CALL:
                    Called name = called(at);
                    told = name == null ? 3 : maker.call(name, number, numbers, numberCount);
                    numberCount = 0;
                    break;
                case BEGIN_ROW:
                    hand.beginRow(hand.count - 1);
                    break;
                case JOIN:
                    told = maker.join(hand.count - number);
                    break;
                case NEGATE:
                case TRANSPOSE:
                    told = what == NEGATE ? maker.negate() : maker.transpose();
                    break;
                case ADD:
                case SUBTRACT:
                    told = maker.add(what == SUBTRACT);
                    break;
                case MULTIPLY:
                case DIVIDE:
                    told = what == MULTIPLY ? maker.multiply() : maker.divide();
                    break;
                case POWER:
                    told = maker.power(tape.number(number >> 1), (number & 1) == 1);
                    break;
                case SHOW:
                    told = maker.show(page) ? statement(what, at) : 8;
                    break;
                default:
                    told = statement(what, at);
                    break;
            }
            if (told != 0) {
                fault = told;
                faultPlace = told != 6 ? at : what == POWER ? number >> 1 : numberPlace;
            }
        }

        /** What is left to do of a statement at its end, and the look at a name ahead of its sum. */
        private int statement(int what, int at) {
            if (what == CLAIM) {
                return called(at) == null ? 0 : 4;
            }
            if (what == GIVE && !keep(at)) {
                return 8;
            }
            if (what == CHECK && !hand.same(0, 1)) {
                return 9;
            }
            hand.clear();
            done++;
            doneInAll++;
            return 0;
        }

        private void noteNumber(int at) {
            if (numberCount == 0) {
                numberPlace = at;
            }
            if (numberCount < numbers.length) {
                numbers[numberCount] = tape.number(at);
            }
            numberCount++;
        }

        private int tell(int at) {
            int name = called(at) == null ? find(at) : NONE;
            if (name == NONE) {
                return 3;
            }
            if (!maker.takes(kept.rowsOf(name) * kept.columnsOf(name), kept.limbsOf(name))) {
                return 8;
            }
            hand.pushFrom(kept, name);
            return 0;
        }

        /** Gives the name the value at hand; false: names would have too much. */
        private boolean keep(int at) {
            int name = find(at);
            boolean had = name != NONE;
            int cells = kept.cells + hand.cells - (had ? kept.rowsOf(name) * kept.columnsOf(name) : 0);
            int limbs = kept.limbs + hand.limbs - (had ? kept.limbsOf(name) : 0);
            if (cells > KEPT_CELLS || limbs > KEPT_LIMBS || !had && kept.count == NAMES) {
                return false;
            }
            if (had) {
                kept.cutOut(name);
                System.arraycopy(keys, (name + 1) * KEY, keys, name * KEY, (kept.count - name) * KEY);
            } else if (keys.length == kept.count * KEY) {
                keys = Arrays.copyOf(keys, 2 * keys.length);
            }
            System.arraycopy(key, 0, keys, kept.count * KEY, KEY);
            kept.pushFrom(hand, 0);
            return true;
        }

        private int find(int at) {
            int end = tape.behindWord(at, true);
            Arrays.fill(key, 0);
            for (int i = 0; i < end - at && i < 4 * KEY; i++) {
                key[i >> 2] = key[i >> 2] << 8 | tape.byteAt(at + i);
            }
            for (int name = 0; name < kept.count; name++) {
                int same = 0;
                for (; same < KEY && keys[name * KEY + same] == key[same]; same++) {
                }
                if (same == KEY) {
                    return name;
                }
            }
            return NONE;
        }

        private Called called(int at) {
            int end = tape.behindWord(at, true);
            for (int i = 0; i < CALLED.length; i++) {
                if (tape.is(at, end, CALLED[i].word)) {
                    return CALLED[i];
                }
            }
            return null;
        }
    }

    /** Makes values of those at hand; each method answers the fault, or 0. */
    private static final class Maker {
        static final int HAND_CELLS = 4096;
        static final int HAND_LIMBS = 40000;
        static final int STEPS = 2000000;
        static final int HIGHEST_POWER = 1000;
        static final int FROBENIUS_ROWS = 8;

        int steps;
        final Values hand = new Values();
        private final Lattices lattices = new Lattices();
        private final Elimination elimination = lattices.elimination;
        private final Polynomials polynomials = new Polynomials();
        private final Calc calc = elimination.calc;
        private final Matrix a = new Matrix();
        private final Matrix b = new Matrix();
        private final Matrix r = new Matrix();
        private final Whole first = new Whole();
        private final Whole second = new Whole();
        private final Whole product = new Whole();

        boolean takes(int cells, int limbs) {
            return hand.cells + cells <= HAND_CELLS && hand.limbs + limbs <= HAND_LIMBS;
        }

        boolean show(Page page) {
            hand.load(0, a);
            return page.show(a, calc);
        }

        int number(Tape tape, int from) {
            if (!step(1)) {
                return 8;
            }
            r.single(0);
            int to = tape.behindWord(from, false);
            for (int i = from; i < to; i++) {
                r.cell(0).multiplySmall(10, tape.byteAt(i) - '0');
            }
            return finish(0);
        }

        int negate() {
            hand.load(hand.count - 1, r);
            if (!step(size(r) + 1)) {
                return 8;
            }
            for (int i = 0; i < size(r); i++) {
                Whole cell = r.cell(i);
                cell.below = cell.size > 0 && !cell.below;
            }
            return finish(1);
        }

        int add(boolean minus) {
            loadTwo();
            if (a.rows != b.rows || a.columns != b.columns) {
                return 5;
            }
            if (!step(size(a) + size(b) + 1)) {
                return 8;
            }
            Whole divisor = calc.gcd(a.common, b.common, false);
            calc.divide(first, b.common, divisor);
            calc.divide(second, a.common, divisor);
            r.shape(a.rows, a.columns);
            r.common.multiply(a.common, first);
            for (int i = 0; i < size(r); i++) {
                Whole cell = r.cell(i);
                cell.multiply(a.cell(i), first);
                product.multiply(b.cell(i), second);
                if (minus) {
                    cell.subtract(cell, product);
                } else {
                    cell.add(cell, product);
                }
            }
            return finish(2);
        }

        int multiply() {
            loadTwo();
            boolean lines = a.columns == b.rows;
            if (!lines && size(a) != 1 && size(b) != 1) {
                return 5;
            }
            if (!step((size(a) + size(b) + 1) * (lines ? a.columns : 1))) {
                return 8;
            }
            if (lines) {
                if (!Matrix.allows(a.rows, b.columns)) {
                    return 8;
                }
                multiplyLines(a, b);
            } else if (size(a) == 1) {
                scale(b, a.cell(0), a.common);
            } else {
                scale(a, b.cell(0), b.common);
            }
            return finish(2);
        }

        int divide() {
            loadTwo();
            if (size(b) != 1) {
                return 5;
            }
            if (!step(size(a) + 2)) {
                return 8;
            }
            if (b.cell(0).size == 0) {
                return 7;
            }
            scale(a, b.common, b.cell(0));
            return finish(2);
        }

        int transpose() {
            hand.load(hand.count - 1, a);
            if (!step(size(a) + 1)) {
                return 8;
            }
            r.shape(a.columns, a.rows);
            r.common.set(a.common);
            for (int i = 0; i < size(a); i++) {
                r.at(i % a.columns, i / a.columns).set(a.cell(i));
            }
            return finish(1);
        }

        int power(long exponent, boolean minus) {
            int top = hand.count - 1;
            int side = hand.rowsOf(top);
            if (side != hand.columnsOf(top)) {
                return 5;
            }
            if (exponent > HIGHEST_POWER) {
                return 6;
            }
            int cells = side * side;
            if (exponent == 0) {
                r.identity(side);
                return step(cells + 1) ? finish(1) : 8;
            }
            if (minus) {
                hand.load(top, a);
                int told = step((cells + 1) * side) ? elimination.make(Called.INVERSE, a, b, 0, r) : 8;
                if (told != 0 || !r.becomesValue(calc, first)) {
                    return told != 0 ? told : 8;
                }
                hand.drop(1);
                hand.push(r);
            }
            hand.load(top, r);
            int n = (int) exponent;
            for (int bit = 30 - Integer.numberOfLeadingZeros(n); bit >= 0; bit--) {
                // P * P, and P * A if the bit is 1
                for (int turn = 0; turn <= (n >> bit & 1); turn++) {
                    if (!step((2 * cells + 1) * side)) {
                        return 8;
                    }
                    a.copy(r);
                    if (turn == 1) {
                        hand.load(top, b);
                    }
                    multiplyLines(a, turn == 0 ? a : b);
                    if (!r.becomesValue(calc, first)) {
                        return 8;
                    }
                }
            }
            return finish(1);
        }

        /** Puts together the values from that one on. */
        int join(int from) {
            int rows = 0;
            int columns = 0;
            int cells = 0;
            int width = 0;
            for (int value = from; value < hand.count; value++) {
                boolean begins = hand.beginsRow(value);
                if (begins) {
                    rows += hand.rowsOf(value);
                    width = 0;
                }
                width += hand.columnsOf(value);
                cells += hand.rowsOf(value) * hand.columnsOf(value);
                boolean ends = value + 1 == hand.count || hand.beginsRow(value + 1);
                columns = columns == 0 && ends ? width : columns;
                if (!begins && hand.rowsOf(value) != hand.rowsOf(value - 1) || ends && width != columns) {
                    return 5;
                }
            }
            if (!step(cells + 1) || !Matrix.allows(rows, columns) || !joinCommons(from)) {
                return 8;
            }
            r.shape(rows, columns);
            int row = 0;
            int column = 0;
            for (int value = from; value < hand.count; value++) {
                hand.load(value, a);
                calc.divide(first, r.common, a.common);
                for (int i = 0; i < size(a); i++) {
                    r.at(row + i / a.columns, column + i % a.columns).multiply(a.cell(i), first);
                }
                column += a.columns;
                if (column == columns) {
                    column = 0;
                    row += a.rows;
                }
            }
            return finish(hand.count - from);
        }

        /** The least common multiple; false as soon as it is too long for a value. */
        private boolean joinCommons(int from) {
            r.common.setLong(1);
            for (int value = from; value < hand.count && r.common.bits() <= Matrix.BITS; value++) {
                hand.loadCommon(value, first);
                calc.divide(second, first, calc.gcd(first, r.common, false));
                first.set(r.common);
                r.common.multiply(first, second);
            }
            return r.common.bits() <= Matrix.BITS;
        }

        int call(Called name, int values, long[] numbers, int count) {
            int told = refuse(name, values, numbers, count);
            if (told != 0) {
                return told;
            }
            switch (name) {
                case HERMITE:
                    told = lattices.hermite(a, b, r);
                    break;
                case SMITH:
                    told = lattices.smith(a, b, r);
                    break;
                case LLL:
                case SWAPS:
                    told = lattices.lll(a, b, r);
                    if (name == Called.SWAPS) {
                        r.single(lattices.swaps);
                    }
                    break;
                case CHARPOLY:
                case MINPOLY:
                case FROBENIUS:
                    told = polynomials.make(name, a, r);
                    break;
                case MOD:
                    told = elimination.residues(a, (int) numbers[0], r) ? 0 : 7;
                    break;
                case ID:
                case ZERO:
                case PART:
                    told = cellsOf(name, numbers);
                    break;
                case TRACE:
                case ROWS:
                case COLUMNS:
                    count(name);
                    break;
                default:
                    told = elimination.make(name, a, b, count == 0 ? 0 : (int) numbers[0], r);
                    break;
            }
            return told == 0 ? finish(values) : told;
        }

        /** Loads the values into a and b; faults 5 and 6, and 8 for steps and rows. */
        private int refuse(Called name, int values, long[] numbers, int count) {
            if (values != name.values || count < name.fewest || count > name.most) {
                return 5;
            }
            a.shape(0, 0);
            b.shape(0, 0);
            if (values > 0) {
                hand.load(hand.count - values, a);
            }
            if (values > 1) {
                hand.load(hand.count - 1, b);
            }
            if (name.square && a.rows != a.columns || values > 1 && a.rows != b.rows) {
                return 5;
            }
            if (count > 0 && !allows(name, numbers)) {
                return 6;
            }
            int times = name.heavy ? Math.min(a.rows, a.columns) : 1;
            boolean fine = step((size(a) + size(b) + 1) * times);
            return fine && (name != Called.FROBENIUS || a.rows <= FROBENIUS_ROWS) ? 0 : 8;
        }

        private boolean allows(Called name, long[] n) {
            switch (name) {
                case ID:
                    return n[0] >= 1 && n[0] <= Matrix.SIDE;
                case ZERO:
                    return n[0] >= 1 && n[0] <= Matrix.SIDE && n[1] >= 1 && n[1] <= Matrix.SIDE;
                case PART:
                    return n[0] >= 1 && n[0] <= n[1] && n[1] <= a.rows && n[2] >= 1 && n[2] <= n[3] && n[3] <= a.columns;
                default:
                    return Modular.isPrime(n[0]);
            }
        }

        private void count(Called name) {
            r.single(name == Called.ROWS ? a.rows : name == Called.COLUMNS ? a.columns : 0);
            if (name == Called.TRACE) {
                r.common.set(a.common);
                for (int i = 0; i < a.rows; i++) {
                    r.cell(0).add(r.cell(0), a.at(i, i));
                }
            }
        }

        private int cellsOf(Called name, long[] n) {
            int rows = (int) n[0];
            int columns = (int) n[name == Called.ID ? 0 : 1];
            if (name == Called.PART) {
                int top = rows - 1;
                int left = (int) n[2] - 1;
                r.shape(columns - top, (int) n[3] - left);
                r.common.set(a.common);
                for (int i = 0; i < size(r); i++) {
                    r.cell(i).set(a.at(top + i / r.columns, left + i % r.columns));
                }
                return 0;
            }
            if (!Matrix.allows(rows, columns)) {
                return 8;
            }
            r.blank(rows, columns);
            for (int i = 0; i < rows && name == Called.ID; i++) {
                r.at(i, i).setLong(1);
            }
            return 0;
        }

        private void multiplyLines(Matrix left, Matrix right) {
            r.shape(left.rows, right.columns);
            r.common.multiply(left.common, right.common);
            for (int i = 0; i < left.rows; i++) {
                for (int j = 0; j < right.columns; j++) {
                    Whole cell = r.at(i, j);
                    cell.multiply(left.at(i, 0), right.at(0, j));
                    for (int k = 1; k < left.columns; k++) {
                        product.multiply(left.at(i, k), right.at(k, j));
                        cell.add(cell, product);
                    }
                }
            }
        }

        /** The result is m times upper over lower. */
        private void scale(Matrix m, Whole upper, Whole lower) {
            r.shape(m.rows, m.columns);
            r.common.multiply(m.common, lower);
            for (int i = 0; i < size(m); i++) {
                r.cell(i).multiply(m.cell(i), upper);
            }
        }

        /** The result takes the place of the values that went into it. */
        private int finish(int values) {
            if (!r.becomesValue(calc, first)) {
                return 8;
            }
            hand.drop(values);
            if (!takes(size(r), r.limbs)) {
                return 8;
            }
            hand.push(r);
            return 0;
        }

        private boolean step(int more) {
            steps += more;
            return steps <= STEPS;
        }

        private void loadTwo() {
            hand.load(hand.count - 2, a);
            hand.load(hand.count - 1, b);
        }

        private static int size(Matrix m) {
            return m.rows * m.columns;
        }
    }

    /** Echelon forms, over the fractions without fractions (Bareiss), and modulo a prime. */
    private static final class Elimination {
        static final int WEIGHT = 2000;

        /** After forward: the pivots' columns, how many, and the determinant of their rows and columns. */
        final int[] pivots = new int[Matrix.SIDE];
        int rank;
        final Whole pivot = new Whole();
        final Matrix work = new Matrix();
        final Calc calc = new Calc();
        private final Matrix scales = new Matrix();
        private final Whole divisor = new Whole();
        private final Whole otherDivisor = new Whole();
        private final Whole factor = new Whole();
        private final Whole otherFactor = new Whole();
        private final Whole t = new Whole();
        private final Whole t2 = new Whole();
        private boolean odd;
        private int[] table = new int[16];
        private long residue;

        static boolean isHeavy(int rows, int columns, int bits, int weight) {
            int k = Math.min(rows, columns);
            return k * (bits + log(k)) > weight;
        }

        /** The least e with 2^e not below k. */
        static int log(int k) {
            return 32 - Integer.numberOfLeadingZeros(k - 1);
        }

        /** det, rank, echelon, kernel, solve and inverse, modulo the prime unless that is 0. */
        int make(Called name, Matrix a, Matrix b, int prime, Matrix r) {
            boolean solving = name == Called.SOLVE || name == Called.INVERSE;
            if (name == Called.INVERSE) {
                b.identity(a.rows);
            }
            Matrix beside = solving ? b : null;
            boolean turned = name == Called.KERNEL;
            if (prime == 0) {
                if (!prepare(a, beside, turned)) {
                    return 8;
                }
                forward(a.columns);
            } else {
                if (!prepareResidues(a, beside, turned, prime)) {
                    return 7;
                }
                reduceResidues(a.columns, prime);
            }
            if (isMissing(name, a)) {
                return 7;
            }
            if (name == Called.DET) {
                return determinant(a.rows, prime, r);
            }
            if (name == Called.RANK) {
                r.single(rank);
                return 0;
            }
            int rows = solving ? a.columns : turned ? a.columns - rank : a.rows;
            int columns = solving ? b.columns : a.columns;
            if (!Matrix.allows(rows, columns)) {
                return 8;
            }
            if (prime == 0) {
                backward(solving ? a.columns : 0);
            }
            r.blank(rows, columns);
            r.common.set(pivot);
            if (turned) {
                fillKernel(r, prime);
            } else {
                fillRows(r, solving);
            }
            return 0;
        }

        /** No solution, no inverse, or no row in the kernel. */
        private boolean isMissing(Called name, Matrix a) {
            if (name == Called.KERNEL) {
                return rank == a.columns;
            }
            boolean missing = name == Called.INVERSE && rank < a.rows;
            for (int i = rank * work.columns; i < work.rows * work.columns && name == Called.SOLVE; i++) {
                missing = missing || work.cell(i).size > 0;
            }
            return missing;
        }

        private int determinant(int side, int prime, Matrix r) {
            r.single(rank < side ? 0 : residue);
            if (prime != 0 || rank < side) {
                return 0;
            }
            Whole cell = r.cell(0);
            cell.set(pivot);
            cell.below = cell.below != odd;
            for (int i = 0; i < side; i++) {
                Whole scale = scales.cell(i);
                t.set(calc.gcd(cell, scale, false));
                calc.divide(cell, cell, t);
                calc.divide(t2, scale, t);
                t.set(r.common);
                r.common.multiply(t, t2);
                // in least terms already, it can only become longer
                if (r.common.bits() > Matrix.BITS) {
                    return 8;
                }
            }
            return 0;
        }

        private void fillRows(Matrix r, boolean solving) {
            for (int i = 0; i < rank; i++) {
                int row = solving ? pivots[i] : i;
                for (int j = 0; j < r.columns; j++) {
                    r.at(row, j).set(work.at(i, work.columns - r.columns + j));
                }
            }
        }

        /** The columns were turned round for this: so the row of each free column begins with it. */
        private void fillKernel(Matrix r, int prime) {
            int last = r.columns - 1;
            int row = r.rows - 1;
            int next = 0;
            for (int c = 0; c <= last; c++) {
                if (next < rank && pivots[next] == c) {
                    next++;
                    continue;
                }
                r.at(row, last - c).set(pivot);
                for (int i = 0; i < next; i++) {
                    Whole cell = r.at(row, last - pivots[i]);
                    t.setLong(prime == 0 || work.at(i, c).size == 0 ? 0 : prime);
                    cell.subtract(t, work.at(i, c));
                }
                row--;
            }
        }

        /** Each row of both becomes whole; false: they have too much weight. */
        private boolean prepare(Matrix a, Matrix b, boolean turned) {
            int columns = a.columns + (b == null ? 0 : b.columns);
            work.shape(a.rows, columns);
            scales.shape(a.rows, 1);
            int bits = 0;
            for (int i = 0; i < a.rows && bits <= WEIGHT; i++) {
                Whole scale = scales.cell(i);
                for (int side = 0; side < (b == null ? 1 : 2); side++) {
                    // what divides COMMON and the row alike needs no multiplying
                    Matrix m = side == 0 ? a : b;
                    Whole to = side == 0 ? divisor : otherDivisor;
                    to.set(m.common);
                    for (int j = 0; j < m.columns && !to.isOne(); j++) {
                        to.set(calc.gcd(to, m.at(i, j), false));
                    }
                    calc.divide(side == 0 ? scale : t, m.common, to);
                }
                factor.setLong(1);
                if (b != null) {
                    Whole shared = calc.gcd(scale, t, false);
                    calc.divide(factor, t, shared);
                    calc.divide(otherFactor, scale, shared);
                }
                for (int j = 0; j < columns && bits <= WEIGHT; j++) {
                    boolean left = j < a.columns;
                    Whole cell = left ? a.at(i, turned ? a.columns - 1 - j : j) : b.at(i, j - a.columns);
                    calc.divide(t, cell, left ? divisor : otherDivisor);
                    bits = Math.max(bits, stretch(work.at(i, j), t, left ? factor : otherFactor));
                }
            }
            return bits <= WEIGHT && !isHeavy(a.rows, columns, bits, WEIGHT);
        }

        /** The product and its length, or only what that is at least, when it is beyond all weight. */
        private static int stretch(Whole to, Whole cell, Whole by) {
            int least = cell.bits() + by.bits() - 1;
            if (cell.size > 0 && least > WEIGHT) {
                return least;
            }
            to.multiply(cell, by);
            return to.bits();
        }

        /** Brings work, of whole cells, to rows of stairs; the pivots are in the first columns alone. */
        void forward(int columns) {
            rank = 0;
            odd = false;
            pivot.setLong(1);
            for (int c = 0; c < columns && rank < work.rows; c++) {
                int row = rank;
                for (; row < work.rows && work.at(row, c).size == 0; row++) {
                }
                if (row == work.rows) {
                    continue;
                }
                odd = odd != (row != rank);
                work.exchangeRows(row, rank);
                for (int i = rank + 1; i < work.rows; i++) {
                    clearCell(i, c);
                }
                pivot.set(work.at(rank, c));
                pivots[rank] = c;
                rank++;
            }
        }

        private void clearCell(int i, int c) {
            Whole high = work.at(rank, c);
            Whole low = work.at(i, c);
            boolean first = pivot.isOne();
            for (int j = c + 1; j < work.columns; j++) {
                Whole cell = work.at(i, j);
                t.multiply(high, cell);
                t2.multiply(low, work.at(rank, j));
                t.sum(t, t2, true);
                if (first) {
                    cell.set(t);
                } else {
                    calc.divide(cell, t, pivot);
                }
            }
            low.setLong(0);
        }

        /** After forward: each row becomes that of the echelon form times pivot, in the columns from that one on. */
        void backward(int from) {
            for (int i = rank - 1; i >= 0; i--) {
                Whole own = work.at(i, pivots[i]);
                int next = i + 1;
                for (int c = pivots[i] + 1; c < work.columns; c++) {
                    if (next < rank && pivots[next] == c) {
                        next++;
                    } else if (c >= from) {
                        Whole cell = work.at(i, c);
                        t.multiply(pivot, cell);
                        for (int k = i + 1; k < next; k++) {
                            t2.multiply(work.at(i, pivots[k]), work.at(k, c));
                            t.subtract(t, t2);
                        }
                        calc.divide(cell, t, own);
                    }
                }
                own.set(pivot);
                for (int k = i + 1; k < rank; k++) {
                    work.at(i, pivots[k]).setLong(0);
                }
            }
        }

        /** mod: false if the prime divides a lower part. */
        boolean residues(Matrix a, int prime, Matrix r) {
            long lower = a.common.modulo(prime);
            long inverse = Modular.power(lower, prime - 2, prime);
            r.shape(a.rows, a.columns);
            r.common.setLong(1);
            for (int i = 0; i < a.rows * a.columns && lower != 0; i++) {
                r.cell(i).setLong(a.cell(i).modulo(prime) * inverse % prime);
            }
            return lower != 0;
        }

        private boolean prepareResidues(Matrix a, Matrix b, boolean turned, int prime) {
            int columns = a.columns + (b == null ? 0 : b.columns);
            work.shape(a.rows, columns);
            if (table.length < a.rows * columns) {
                table = new int[a.rows * columns];
            }
            boolean fine = residues(a, prime, scales);
            for (int i = 0; i < a.rows * a.columns && fine; i++) {
                int column = i % a.columns;
                table[i / a.columns * columns + (turned ? a.columns - 1 - column : column)] = (int) scales.cell(i).value();
            }
            fine = fine && (b == null || residues(b, prime, scales));
            for (int i = 0; b != null && i < b.rows * b.columns && fine; i++) {
                table[i / b.columns * columns + a.columns + i % b.columns] = (int) scales.cell(i).value();
            }
            return fine;
        }

        /** Brings the table to its echelon form, and this to work. */
        private void reduceResidues(int columns, int prime) {
            int width = work.columns;
            rank = 0;
            residue = 1;
            pivot.setLong(1);
            for (int c = 0; c < columns && rank < work.rows; c++) {
                int row = rank;
                for (; row < work.rows && table[row * width + c] == 0; row++) {
                }
                if (row == work.rows) {
                    continue;
                }
                long head = table[row * width + c];
                residue = residue * (row == rank ? head : prime - head) % prime;
                long inverse = Modular.power(head, prime - 2, prime);
                for (int j = 0; j < width; j++) {
                    long cell = table[row * width + j];
                    table[row * width + j] = table[rank * width + j];
                    table[rank * width + j] = (int) (cell * inverse % prime);
                }
                for (int i = 0; i < work.rows; i++) {
                    if (i != rank) {
                        takeRow(i * width, rank * width, table[i * width + c], prime);
                    }
                }
                pivots[rank] = c;
                rank++;
            }
            for (int i = 0; i < work.rows * width; i++) {
                work.cell(i).setLong(table[i]);
            }
        }

        private void takeRow(int to, int from, long times, int prime) {
            for (int j = 0; j < work.columns && times != 0; j++) {
                table[to + j] = (int) ((table[to + j] + (prime - times) * table[from + j]) % prime);
            }
        }
    }

    /** What is made of the rows of whole numbers: Hermite's and Smith's forms and reduced lattices. */
    private static final class Lattices {
        static final int MOST_SWAPS = 2000;
        static final int ROUNDS = 1000000;

        final Elimination elimination = new Elimination();
        private final Calc calc = elimination.calc;
        private final Matrix work = elimination.work;
        private final Whole modulus = new Whole();
        private final Whole fa = new Whole();
        private final Whole fb = new Whole();
        private final Whole fc = new Whole();
        private final Whole fd = new Whole();
        private final Whole t = new Whole();
        private final Whole t2 = new Whole();
        private final Whole t3 = new Whole();
        /** Of the latest lll. */
        int swaps;

        /** Faults 8 and 7; else work becomes a, and r blank. */
        private int prepare(Matrix a, Matrix r) {
            if (Elimination.isHeavy(a.rows, a.columns, a.longest(), Elimination.WEIGHT)) {
                return 8;
            }
            if (!a.common.isOne()) {
                return 7;
            }
            work.copy(a);
            r.blank(a.rows, a.columns);
            return 0;
        }

        /**
         * The form of the pivots' columns alone, modulo a determinant of theirs, which keeps all short;
         * the other columns depend on these as they do in the echelon form.
         */
        int hermite(Matrix a, Matrix h, Matrix r) {
            int told = prepare(a, r);
            if (told != 0) {
                return told;
            }
            elimination.forward(a.columns);
            modulus.set(elimination.pivot);
            modulus.below = false;
            int rank = elimination.rank;
            int[] pivots = elimination.pivots;
            h.shape(a.rows, rank);
            for (int i = 0; i < a.rows; i++) {
                for (int j = 0; j < rank; j++) {
                    calc.modulo(h.at(i, j), a.at(i, pivots[j]), modulus);
                }
            }
            for (int j = 0; j < rank; j++) {
                for (int i = j + 1; i < a.rows; i++) {
                    clear(h, j, i, true);
                }
                closeRow(h, j);
            }
            for (int i = rank - 2; i >= 0; i--) {
                for (int j = i + 1; j < rank; j++) {
                    reduceAbove(h, i, j);
                }
            }
            elimination.backward(0);
            for (int i = 0; i < rank; i++) {
                int next = i;
                for (int c = pivots[i]; c < a.columns; c++) {
                    if (next < rank && pivots[next] == c) {
                        r.at(i, c).set(h.at(i, next));
                        next++;
                    } else {
                        dependent(h, i, next, c, r.at(i, c));
                    }
                }
            }
            return 0;
        }

        /** Puts the modulus itself to the row; what is left of it makes the modulus of the rows below. */
        private void closeRow(Matrix h, int j) {
            Whole divisor = calc.gcd(h.at(j, j), modulus, true);
            fa.set(calc.cofactor);
            t.set(divisor);
            for (int c = j + 1; c < h.columns; c++) {
                t2.multiply(fa, h.at(j, c));
                calc.modulo(h.at(j, c), t2, modulus);
            }
            h.at(j, j).set(t);
            calc.divide(modulus, modulus, t);
            for (int i = (j + 1) * h.columns; i < h.rows * h.columns; i++) {
                calc.modulo(h.cell(i), h.cell(i), modulus);
            }
        }

        private void reduceAbove(Matrix h, int i, int j) {
            calc.modulo(t, h.at(i, j), h.at(j, j));
            t.subtract(h.at(i, j), t);
            calc.divide(fa, t, h.at(j, j));
            for (int c = j; c < h.columns && fa.size > 0; c++) {
                t.multiply(fa, h.at(j, c));
                h.at(i, c).subtract(h.at(i, c), t);
            }
        }

        private void dependent(Matrix h, int row, int next, int column, Whole to) {
            t.setLong(0);
            for (int k = row; k < next; k++) {
                t2.multiply(h.at(row, k), work.at(k, column));
                t.add(t, t2);
            }
            calc.divide(to, t, elimination.pivot);
        }

        /**
         * Each number of the form divides the modulus, a determinant of as many rows as the rank; so
         * the diagonal that is found modulo it tells them all.
         */
        int smith(Matrix a, Matrix m, Matrix r) {
            int told = prepare(a, r);
            if (told != 0) {
                return told;
            }
            elimination.forward(a.columns);
            modulus.set(elimination.pivot);
            modulus.below = false;
            int side = Math.min(a.rows, a.columns);
            m.shape(a.rows, a.columns);
            for (int i = 0; i < a.rows * a.columns; i++) {
                calc.modulo(m.cell(i), a.cell(i), modulus);
            }
            for (int k = 0; k < side; k++) {
                if (!findPivot(m, k)) {
                    break;
                }
                boolean again = true;
                for (int round = 0; round < ROUNDS && again; round++) {
                    for (int i = k + 1; i < m.rows; i++) {
                        clear(m, k, i, true);
                    }
                    again = false;
                    for (int i = k + 1; i < m.columns; i++) {
                        again = clear(m, k, i, false) || again;
                    }
                }
            }
            for (int k = 0; k < side; k++) {
                m.at(k, k).set(calc.gcd(m.at(k, k), modulus, false));
            }
            chain(m, side);
            for (int k = 0; k < elimination.rank; k++) {
                r.at(k, k).set(m.at(k, k));
            }
            return 0;
        }

        private boolean findPivot(Matrix m, int k) {
            for (int i = k; i < m.rows; i++) {
                for (int j = k; j < m.columns; j++) {
                    if (m.at(i, j).size > 0) {
                        exchangeLines(m, k, i, true);
                        exchangeLines(m, k, j, false);
                        return true;
                    }
                }
            }
            return false;
        }

        /** Lets each number of the diagonal divide the next one. */
        private void chain(Matrix m, int side) {
            for (int i = 0; i < side; i++) {
                for (int j = i + 1; j < side; j++) {
                    Whole less = m.at(i, i);
                    Whole more = m.at(j, j);
                    t.set(calc.gcd(less, more, false));
                    calc.divide(t2, more, t);
                    more.multiply(less, t2);
                    less.set(t);
                }
            }
        }

        /**
         * Line k and i are mixed, modulo the modulus, so that line i has 0 at k; true when more than
         * line i has changed. A line is a row or else a column.
         */
        private boolean clear(Matrix m, int k, int i, boolean rows) {
            Whole own = cell(m, k, k, rows);
            Whole other = cell(m, i, k, rows);
            if (other.size == 0) {
                return false;
            }
            if (own.size == 0) {
                exchangeLines(m, k, i, rows);
                return true;
            }
            calc.divide(fc, other, own);
            boolean mixed = calc.rest.size > 0;
            if (mixed) {
                t.set(calc.gcd(own, other, true));
                fa.set(calc.cofactor);
                t2.multiply(fa, own);
                t2.subtract(t, t2);
                calc.divide(fb, t2, other);
                calc.divide(fc, other, t);
                calc.divide(fd, own, t);
            }
            int along = rows ? m.columns : m.rows;
            for (int c = k; c < along; c++) {
                own = cell(m, k, c, rows);
                other = cell(m, i, c, rows);
                t.multiply(fc, own);
                if (mixed) {
                    t2.multiply(fd, other);
                    t.subtract(t2, t);
                    t2.multiply(fa, own);
                    t3.multiply(fb, other);
                    t2.add(t2, t3);
                    calc.modulo(own, t2, modulus);
                } else {
                    t.subtract(other, t);
                }
                calc.modulo(other, t, modulus);
            }
            return mixed;
        }

        private static Whole cell(Matrix m, int line, int along, boolean rows) {
            return rows ? m.at(line, along) : m.at(along, line);
        }

        private static void exchangeLines(Matrix m, int i, int j, boolean rows) {
            if (rows) {
                m.exchangeRows(i, j);
            }
            for (int c = 0; c < m.rows && !rows && i != j; c++) {
                m.exchange(c * m.columns + i, c * m.columns + j);
            }
        }

        /** Rows are counted from 1; d has the determinants of products, work those times m. */
        int lll(Matrix a, Matrix d, Matrix r) {
            if (Elimination.isHeavy(a.rows, a.columns, a.longest(), Elimination.WEIGHT)) {
                return 8;
            }
            if (a.rows > a.columns) {
                return 7;
            }
            d.shape(1, a.rows + 1);
            d.cell(0).setLong(1);
            work.shape(a.rows, a.rows);
            for (int i = 1; i <= a.rows; i++) {
                measure(a, d, i);
                if (d.cell(i).size == 0) {
                    return 7;
                }
            }
            swaps = 0;
            int k = 2;
            int most = 1;
            for (int round = 0; round < ROUNDS && k <= a.rows; round++) {
                if (k > most) {
                    // the rows before it have changed since
                    measure(a, d, k);
                    most = k;
                }
                for (int j = k - 1; j >= 1; j--) {
                    shorten(a, d, k, j);
                }
                if (isLong(d, k)) {
                    k++;
                } else {
                    if (swaps == MOST_SWAPS) {
                        return 8;
                    }
                    swaps++;
                    swap(a, d, k, most);
                    k = Math.max(k - 1, 2);
                }
            }
            r.copy(a);
            return 0;
        }

        /** m of rows i and j times d of j, which makes it whole. */
        private Whole share(int i, int j) {
            return work.at(i - 1, j - 1);
        }

        /** Finds d of row i, and what of it lies along the rows before it. */
        private void measure(Matrix a, Matrix d, int i) {
            for (int j = 1; j <= i; j++) {
                t.setLong(0);
                for (int c = 0; c < a.columns; c++) {
                    t2.multiply(a.at(i - 1, c), a.at(j - 1, c));
                    t.add(t, t2);
                }
                for (int k = 1; k < j; k++) {
                    t2.multiply(d.cell(k), t);
                    t3.multiply(share(i, k), share(j, k));
                    t2.subtract(t2, t3);
                    calc.divide(t, t2, d.cell(k - 1));
                }
                (j == i ? d.cell(i) : share(i, j)).set(t);
            }
        }

        private void shorten(Matrix a, Matrix d, int k, int j) {
            // fa becomes the whole number next to share over d, of two as near the even one
            t.add(share(k, j), share(k, j));
            t.add(t, d.cell(j));
            t2.add(d.cell(j), d.cell(j));
            calc.modulo(t3, t, t2);
            t.subtract(t, t3);
            calc.divide(fa, t, t2);
            if (t3.size == 0 && fa.size > 0 && (fa.limbs[0] & 1) == 1) {
                t.setLong(1);
                fa.subtract(fa, t);
            }
            for (int c = 0; c < a.columns && fa.size > 0; c++) {
                t.multiply(fa, a.at(j - 1, c));
                a.at(k - 1, c).subtract(a.at(k - 1, c), t);
            }
            for (int i = 1; i <= j && fa.size > 0; i++) {
                t.multiply(fa, i == j ? d.cell(j) : share(j, i));
                share(k, i).subtract(share(k, i), t);
            }
        }

        /** Whether row k may stay behind the one before it. */
        private boolean isLong(Matrix d, int k) {
            Whole own = share(k, k - 1);
            t.multiply(own, own);
            t2.multiply(d.cell(k), d.cell(k - 2));
            t.add(t, t2);
            t.multiplySmall(4, 0);
            t2.multiply(d.cell(k - 1), d.cell(k - 1));
            t2.multiplySmall(3, 0);
            return t.compareSize(t2) >= 0;
        }

        private void swap(Matrix a, Matrix d, int k, int most) {
            a.exchangeRows(k - 1, k - 2);
            for (int j = 1; j < k - 1; j++) {
                work.exchange((k - 1) * work.columns + j - 1, (k - 2) * work.columns + j - 1);
            }
            Whole own = share(k, k - 1);
            Whole last = d.cell(k - 1);
            t.multiply(own, own);
            t2.multiply(d.cell(k), d.cell(k - 2));
            t.add(t, t2);
            calc.divide(fb, t, last);
            for (int i = k + 1; i <= most; i++) {
                fc.set(share(i, k));
                t.multiply(d.cell(k), share(i, k - 1));
                t2.multiply(own, fc);
                t.subtract(t, t2);
                calc.divide(share(i, k), t, last);
                t.multiply(fb, fc);
                t2.multiply(own, share(i, k));
                t.add(t, t2);
                calc.divide(share(i, k - 1), t, d.cell(k));
            }
            last.set(fb);
        }
    }

    /**
     * charpoly, minpoly and frobenius: found modulo primes of 31 bits and put together; so many of
     * them that nothing else can be meant (README.md says why).
     */
    private static final class Polynomials {
        static final int WEIGHT = 500;
        static final int PRIMES = 1000000;

        private final Modular modular = new Modular();
        /** The factors as they are known so far, modulo the product of the primes that told them. */
        private final Matrix lifted = new Matrix();
        private final Matrix factors = new Matrix();
        private final Whole modulus = new Whole();
        private final int[] degrees = new int[Modular.SIDE];
        private final Matrix powers = new Matrix();
        private final Whole t = new Whole();
        private final Whole t2 = new Whole();

        int make(Called name, Matrix a, Matrix r) {
            int bits = a.longest();
            int n = a.rows;
            if (Elimination.isHeavy(n, n, bits, WEIGHT)) {
                return 8;
            }
            int each = bits + Elimination.log(n);
            int most = n * (each + 1);
            int needed = most + 8;
            if (name == Called.FROBENIUS) {
                needed = n * (most + 6 + Elimination.log(n)) + 2;
            }
            start(n);
            Arrays.fill(degrees, 0);
            boolean lifting = true;
            int prime = Integer.MAX_VALUE;
            for (int count = 0; count < PRIMES && lifting; count++) {
                modular.find(name, a, prime);
                int better = compareDegrees();
                if (better > 0) {
                    // all primes before were bad ones
                    start(n);
                    System.arraycopy(modular.degrees, 0, degrees, 0, degrees.length);
                }
                if (better >= 0) {
                    putTogether(prime);
                }
                lifting = modulus.bits() < needed || !areSmall(each);
                prime = Modular.primeBelow(prime);
            }
            raise(a.common, n);
            if (name == Called.FROBENIUS) {
                fillBlocks(n, r);
            } else {
                fillRow(r);
            }
            return 0;
        }

        private void start(int n) {
            lifted.blank(1, n);
            modulus.setLong(1);
        }

        /** A bad prime has, in the first place where they are unlike, the lesser degree. */
        private int compareDegrees() {
            int i = 0;
            for (; i < degrees.length - 1 && modular.degrees[i] == degrees[i]; i++) {
            }
            return Integer.compare(modular.degrees[i], degrees[i]);
        }

        private void putTogether(int prime) {
            long inverse = Modular.power(modulus.modulo(prime), prime - 2, prime);
            for (int i = 0; i < lifted.columns; i++) {
                Whole factor = lifted.cell(i);
                long apart = modular.found[i] - factor.modulo(prime);
                long times = (apart < 0 ? apart + prime : apart) * inverse % prime;
                t.set(modulus);
                t.multiplySmall((int) times, 0);
                factor.add(factor, t);
            }
            modulus.multiplySmall(prime, 0);
        }

        /** Brings all factors as near 0 as can be; whether they are as short as those of such polynomials must be. */
        private boolean areSmall(int each) {
            boolean small = true;
            int at = 0;
            factors.shape(1, lifted.columns);
            for (int block = 0; block < degrees.length && degrees[block] > 0; block++) {
                int degree = degrees[block];
                for (int i = 0; i < degree; i++) {
                    Whole factor = factors.cell(at + i);
                    factor.set(lifted.cell(at + i));
                    t.add(factor, factor);
                    if (t.compareSize(modulus) > 0) {
                        factor.subtract(factor, modulus);
                    }
                    small = small && factor.bits() <= degree + (degree - i) * each;
                }
                at += degree;
            }
            return small;
        }

        private void raise(Whole common, int highest) {
            powers.shape(1, highest + 1);
            powers.cell(0).setLong(1);
            for (int i = 1; i <= highest; i++) {
                powers.cell(i).multiply(powers.cell(i - 1), common);
            }
        }

        /** The factors belong to the cells times COMMON: that of x^i is to be divided by COMMON^(degree - i). */
        private void fillRow(Matrix r) {
            int degree = degrees[0];
            r.shape(1, degree + 1);
            r.common.set(powers.cell(degree));
            r.cell(0).set(r.common);
            for (int i = 0; i < degree; i++) {
                r.cell(degree - i).multiply(factors.cell(i), powers.cell(i));
            }
        }

        private void fillBlocks(int n, Matrix r) {
            int longest = degrees[0];
            r.blank(n, n);
            r.common.set(powers.cell(longest));
            int from = 0;
            for (int block = 0; block < degrees.length && degrees[block] > 0; block++) {
                int degree = degrees[block];
                // the longest one was found first, and stands last
                int corner = n - from - degree;
                for (int i = 0; i < degree; i++) {
                    if (i > 0) {
                        r.at(corner + i, corner + i - 1).set(r.common);
                    }
                    Whole cell = r.at(corner + i, corner + degree - 1);
                    t.multiply(factors.cell(from + i), powers.cell(longest - degree + i));
                    t2.setLong(0);
                    cell.subtract(t2, t);
                }
                from += degree;
            }
        }
    }

    /** Matrices modulo a prime of 31 bits: their polynomials and the blocks of their Frobenius form. */
    private static final class Modular {
        static final int SIDE = 32;

        /** The degrees of the polynomials found, and behind one another their factors, of x^0 first, without the highest. */
        final int[] degrees = new int[SIDE];
        final int[] found = new int[SIDE];
        private int n;
        private int prime;
        private final int[] cells = new int[SIDE * SIDE];
        /** Vectors that are independent: each has 1 at its head, and 0 at the heads of those before it. */
        private final int[] basis = new int[SIDE * (SIDE + 1)];
        private final int[] heads = new int[SIDE + 1];
        /** How each vector is made of the powers of the matrix times the vector asked for. */
        private final int[] ways = new int[(SIDE + 1) * (SIDE + 1)];
        private int held;
        private int spanned;
        private int degree;
        private final int[] way = new int[SIDE + 1];
        private final int[] order = new int[SIDE + 1];
        private final int[] vector = new int[SIDE];
        private final int[] image = new int[SIDE];
        private final int[] best = new int[SIDE];
        private final int[] trial = new int[SIDE];

        static boolean isPrime(long p) {
            if (p < 2 || p > Integer.MAX_VALUE) {
                return false;
            }
            long odd = p - 1;
            int twos = 0;
            for (; twos < 31 && (odd & 1) == 0; twos++) {
                odd >>= 1;
            }
            // these four tell all primes below 3215031751
            return passes(2, p, odd, twos) && passes(3, p, odd, twos) && passes(5, p, odd, twos) && passes(7, p, odd, twos);
        }

        private static boolean passes(int base, long p, long odd, int twos) {
            if (p == base) {
                return true;
            }
            long x = power(base, odd, p);
            boolean passed = x == 1;
            for (int i = 0; i < twos; i++) {
                passed = passed || x == p - 1;
                x = x * x % p;
            }
            return passed;
        }

        static int primeBelow(int prime) {
            int p = prime - 1;
            for (; p > 2 && !isPrime(p); p--) {
            }
            return p;
        }

        static long power(long base, long exponent, long p) {
            long result = 1;
            long square = base % p;
            for (long left = exponent; left > 0; left >>= 1) {
                if ((left & 1) == 1) {
                    result = result * square % p;
                }
                square = square * square % p;
            }
            return result;
        }

        void find(Called name, Matrix a, int modulus) {
            n = a.rows;
            prime = modulus;
            for (int i = 0; i < n * n; i++) {
                cells[i] = a.cell(i).modulo(prime);
            }
            Arrays.fill(degrees, 0);
            Arrays.fill(found, 0);
            if (name == Called.CHARPOLY) {
                toHessenberg();
                characteristic();
                return;
            }
            spanned = 0;
            int from = 0;
            int most = name == Called.MINPOLY ? 1 : n;
            for (int block = 0; block < most && spanned < n; block++) {
                longest();
                System.arraycopy(order, 0, found, from, degree);
                degrees[block] = degree;
                from += degree;
                Arrays.fill(ways, spanned * (n + 1), held * (n + 1), 0);
                spanned = held;
            }
        }

        /** A matrix like this one, with 0 below what is just below the diagonal. */
        private void toHessenberg() {
            for (int j = 0; j < n - 2; j++) {
                int low = j + 1;
                int row = low;
                for (; row < n && cells[row * n + j] == 0; row++) {
                }
                if (row == n) {
                    continue;
                }
                for (int c = 0; c < n && row != low; c++) {
                    exchange(row * n + c, low * n + c);
                }
                for (int c = 0; c < n && row != low; c++) {
                    exchange(c * n + row, c * n + low);
                }
                long inverse = power(cells[low * n + j], prime - 2, prime);
                for (int i = low + 1; i < n; i++) {
                    long times = cells[i * n + j] * inverse % prime;
                    for (int c = 0; c < n && times != 0; c++) {
                        cells[i * n + c] = less(cells[i * n + c], times, cells[low * n + c]);
                    }
                    for (int c = 0; c < n && times != 0; c++) {
                        cells[c * n + low] = less(cells[c * n + low], prime - times, cells[c * n + i]);
                    }
                }
            }
        }

        private void exchange(int i, int j) {
            int kept = cells[i];
            cells[i] = cells[j];
            cells[j] = kept;
        }

        /** a less times b. */
        private int less(int a, long times, int b) {
            return (int) ((a + (prime - times) * b) % prime);
        }

        /** Row k of ways becomes the polynomial of the first k rows and columns. */
        private void characteristic() {
            int wide = n + 1;
            Arrays.fill(ways, 0, wide * wide, 0);
            ways[0] = 1;
            for (int k = 1; k <= n; k++) {
                int last = k - 1;
                System.arraycopy(ways, last * wide, ways, k * wide + 1, k);
                long below = 1;
                for (int i = last; i >= 0; i--) {
                    long times = cells[i * n + last] * below % prime;
                    for (int c = 0; c <= i && times != 0; c++) {
                        ways[k * wide + c] = less(ways[k * wide + c], times, ways[i * wide + c]);
                    }
                    below = i == 0 ? 0 : below * cells[i * n + i - 1] % prime;
                }
            }
            System.arraycopy(ways, n * wide, found, 0, n);
            degrees[0] = n;
        }

        /**
         * The basis becomes longer by the powers of the matrix times a vector that takes as many of
         * them as there can be till it depends on them; order says how it does.
         */
        private void longest() {
            Arrays.fill(best, 0);
            best[0] = 1;
            reach(best);
            System.arraycopy(way, 0, order, 0, n + 1);
            for (int i = 1; i < n && degree < n - spanned; i++) {
                int before = degree;
                applyOrder(i, before);
                reach(trial);
                int target = before + degree;
                degree = before;
                // of n + 1 mixtures, at most n fall short
                for (int times = 1; times <= n + 1 && degree < target; times++) {
                    System.arraycopy(best, 0, trial, 0, n);
                    trial[i] = (int) (((long) trial[i] + times) % prime);
                    reach(trial);
                }
                if (target > before) {
                    System.arraycopy(trial, 0, best, 0, n);
                    System.arraycopy(way, 0, order, 0, n + 1);
                }
            }
            reach(best);
        }

        /** trial becomes the order's polynomial of the matrix times unit vector i. */
        private void applyOrder(int i, int highest) {
            Arrays.fill(vector, 0);
            for (int k = highest; k >= 0; k--) {
                advance();
                vector[i] = (int) (((long) vector[i] + order[k]) % prime);
            }
            System.arraycopy(vector, 0, trial, 0, n);
        }

        private void advance() {
            for (int i = 0; i < n; i++) {
                long sum = 0;
                for (int j = 0; j < n; j++) {
                    sum = (sum + (long) cells[i * n + j] * vector[j]) % prime;
                }
                image[i] = (int) sum;
            }
            System.arraycopy(image, 0, vector, 0, n);
        }

        /**
         * degree: how many powers of the matrix times the vector are independent, beside what is
         * spanned; these go to the basis; way: how the next power depends on them.
         */
        private void reach(int[] from) {
            int wide = n + 1;
            held = spanned;
            System.arraycopy(from, 0, vector, 0, n);
            boolean independent = true;
            for (int power = 0; power <= n && independent; power++) {
                degree = power;
                int row = held * n;
                System.arraycopy(vector, 0, basis, row, n);
                Arrays.fill(ways, held * wide, (held + 1) * wide, 0);
                ways[held * wide + degree] = 1;
                for (int k = 0; k < held; k++) {
                    long times = basis[row + heads[k]];
                    for (int c = 0; c < n && times != 0; c++) {
                        basis[row + c] = less(basis[row + c], times, basis[k * n + c]);
                    }
                    for (int c = 0; c < wide && times != 0; c++) {
                        ways[held * wide + c] = less(ways[held * wide + c], times, ways[k * wide + c]);
                    }
                }
                int head = 0;
                for (; head < n && basis[row + head] == 0; head++) {
                }
                independent = head < n;
                if (independent) {
                    long inverse = power(basis[row + head], prime - 2, prime);
                    for (int c = 0; c < n; c++) {
                        basis[row + c] = (int) (basis[row + c] * inverse % prime);
                    }
                    for (int c = 0; c < wide; c++) {
                        ways[held * wide + c] = (int) (ways[held * wide + c] * inverse % prime);
                    }
                    heads[held] = head;
                    held++;
                    advance();
                }
            }
            System.arraycopy(ways, held * wide, way, 0, wide);
        }
    }
}
