import java.math.BigInteger;
import java.util.Random;

/** Promises 35 to 37: products, exact solutions and transforms over residues. */
final class MatrixTest {
    private static final Random RANDOM = new Random(11);

    private MatrixTest() {
    }

    public static void main(String[] args) {
        products();
        solutions();
        beyondLong();
        greatPowers();
        longBorrows();
        residues();
        for (int round = 0; round < 400; round++) {
            randomProduct();
            randomSolution(round);
            randomTransform();
        }
        Due.finish();
    }

    private static void products() {
        GridEngine x = new GridEngine();
        int a = Engine.grid(x, 4, new int[] {2, 3}, 1, 2, 3, 4, 5, 6);
        int b = Engine.grid(x, 1, new int[] {3, 2}, 7, 8, 9, 10, 11, 12);
        int p = x.product(a, b);
        Due.due("shape", Engine.shape(x, p), "2x2");
        Due.due("lane", x.lane(p), 4);
        Due.due("cells", Engine.cells(x, p), 58, 64, 139, 154);
        Due.due("unlike sizes", x.product(a, a), -3);
        Due.due("of a view", Engine.cells(x, x.product(x.turned(b, 0, 1), x.turned(a, 0, 1))), 58, 139, 64, 154);
        int bytes = Engine.grid(x, 1, new int[] {1, 1}, 100);
        Due.due("bytes are worked out as ints", x.cell(x.product(bytes, bytes), 0), 10000);
        int i = Engine.grid(x, 4, new int[] {1, 1}, 65536);
        Due.due("wraps", x.cell(x.product(i, i), 0), 0);
        int l = Engine.grid(x, 5, new int[] {1, 1}, 65536);
        Due.due("the wider lane", x.cell(x.product(i, l), 0), 1L << 32);
        int f = Engine.grid(x, 6, new int[] {1, 2}, Engine.bits(0.1f), Engine.bits(0.2f));
        int ft = x.turned(f, 0, 1);
        Due.due("floats", x.cell(x.product(f, ft), 0), Engine.bits(0f + 0.1f * 0.1f + 0.2f * 0.2f));
        Due.due("from 0", x.cell(x.product(Engine.grid(x, 7, new int[] {1, 1}, Engine.bits(-0.0)), Engine.grid(x, 7, new int[] {1, 1}, Engine.bits(1.0))), 0), 0);
        int d = Engine.grid(x, 7, new int[] {2, 1}, Engine.bits(1.0), Engine.bits(Double.POSITIVE_INFINITY));
        int z = Engine.grid(x, 7, new int[] {1, 2}, Engine.bits(1.0), Engine.bits(0.0));
        Due.due("no number", x.product(d, z), -8);
        Due.due("failed(0)", x.failed(0), 1);
        Due.due("failed(1)", x.failed(1), 1);
        Due.due("one axis", x.product(a, Engine.ints(x, 1, 2, 3)), -1);
        Due.due("failed(0)", x.failed(0), -1);
        Due.due("one axis", x.product(Engine.ints(x, 1, 2, 3), a), -1);
        Due.due("booleans", x.product(a, Engine.grid(x, 0, new int[] {3, 2})), -1);
        Due.due("booleans of unlike sizes", x.product(Engine.grid(x, 0, new int[] {3, 2}), a), -1);
        Due.due("absent", x.product(a, 999), -14);
        Due.due("absent", x.product(999, a), -14);
        int none = Engine.grid(x, 4, new int[] {2, 0});
        Due.due("sums of none", Engine.cells(x, x.product(none, x.turned(none, 0, 1))), 0, 0, 0, 0);
        Due.due("no cells", Engine.shape(x, x.product(x.turned(none, 0, 1), none)), "0x0");
        int long0 = Engine.grid(x, 4, new int[] {4096, 0});
        Due.due("too many cells", x.product(long0, x.turned(long0, 0, 1)), -12);
        int s = Engine.grid(x, 4, new int[] {100, 100});
        Due.due("1000000 products", x.cells(x.product(s, s)), 10000);
        int t = Engine.grid(x, 4, new int[] {100, 101});
        Due.due("1010000 products", x.product(s, t), -12);
        x.crash(0);
        Due.due("product, closed", x.product(999, 999), -13);
        Due.due("solve, closed", x.solve(999, 999), -13);
        Due.due("residues, closed", x.residues(999, 4, true), -13);
    }

    private static void solutions() {
        GridEngine x = new GridEngine();
        int a = Engine.grid(x, 4, new int[] {2, 2}, 2, 1, 1, 3);
        int b = Engine.ints(x, 1, 0);
        int s = x.solve(a, b);
        Due.due("lane", x.lane(s), 5);
        Due.due("numerators", Engine.cells(x, s), 3, -1);
        Due.due("denominators", Engine.cells(x, s + 1), 5, 5);
        s = x.solve(a, Engine.row(x, 1, 4, 7));
        Due.due("lowest terms", Engine.cells(x, s), 1, 2);
        Due.due("denominators", Engine.cells(x, s + 1), 1, 1);
        s = x.solve(a, Engine.row(x, 3, 0, 0));
        Due.due("zeros", Engine.cells(x, s), 0, 0);
        Due.due("of 1", Engine.cells(x, s + 1), 1, 1);
        Due.due("singular", x.solve(Engine.grid(x, 4, new int[] {2, 2}, 1, 2, 2, 4), b), -6);
        Due.due("singular with many solutions", x.solve(Engine.grid(x, 4, new int[] {2, 2}), Engine.ints(x, 0, 0)), -6);
        int neg = Engine.grid(x, 2, new int[] {1, 1}, -4);
        s = x.solve(neg, Engine.ints(x, 6));
        Due.due("sign", x.cell(s, 0), -3);
        Due.due("denominator above 0", x.cell(s + 1, 0), 2);
        int least = Engine.grid(x, 4, new int[] {1, 1}, Integer.MIN_VALUE);
        s = x.solve(least, Engine.ints(x, Integer.MIN_VALUE));
        Due.due("1", x.cell(s, 0), 1);
        Due.due("turned", x.cell(x.solve(x.turned(Engine.grid(x, 4, new int[] {2, 2}, 1, 0, 5, 1), 0, 1), Engine.ints(x, 5, 1)), 0), 0);
        Due.due("g of one axis", x.solve(b, b), -1);
        Due.due("h of two axes", x.solve(a, a), -1);
        Due.due("longs", x.solve(Engine.grid(x, 5, new int[] {1, 1}, 1), Engine.ints(x, 6)), -1);
        Due.due("h of longs", x.solve(neg, Engine.row(x, 5, 1)), -1);
        Due.due("floats", x.solve(Engine.grid(x, 6, new int[] {1, 1}), Engine.ints(x, 6)), -1);
        Due.due("booleans", x.solve(Engine.grid(x, 0, new int[] {1, 1}, 1), Engine.ints(x, 6)), -1);
        Due.due("n 0", x.solve(Engine.grid(x, 4, new int[] {0, 0}), Engine.grid(x, 4, new int[] {0})), -1);
        Due.due("n 11", x.solve(Engine.grid(x, 4, new int[] {11, 11}), Engine.grid(x, 4, new int[] {11})), -1);
        Due.due("not square", x.solve(Engine.grid(x, 4, new int[] {2, 3}), b), -3);
        Due.due("unlike sizes", x.solve(a, Engine.ints(x, 1, 2, 3)), -3);
        Due.due("absent", x.solve(a, 999), -14);
        Due.due("absent", x.solve(999, a), -14);
        while (x.lane(399) < 0) {
            x.turned(a, 0, 1);
        }
        Due.due("two grids are needed", x.solve(a, b), -12);
        Due.due("6 before 12", x.solve(Engine.grid(x, 4, new int[] {2, 2}), b), -6);
    }

    private static void beyondLong() {
        GridEngine x = new GridEngine();
        // x0 = 1, x1 = 2^31 x0, x2 = 2^31 x1, x3 = -2 x2: the last one is -2^63, which a long has.
        long[] cells = {1, 0, 0, 0, Integer.MIN_VALUE, -1, 0, 0, 0, Integer.MIN_VALUE, -1, 0, 0, 0, 2, 1};
        int a = Engine.grid(x, 4, new int[] {4, 4}, cells);
        int s = x.solve(a, Engine.ints(x, 1, 0, 0, 0));
        Due.due("solve", s > 0, true);
        Due.due("numerators", Engine.cells(x, s), 1, -(1L << 31), 1L << 62, Long.MIN_VALUE);
        Due.due("denominators", Engine.cells(x, s + 1), 1, 1, 1, 1);
        int t = x.solve(a, Engine.ints(x, -1, 0, 0, 0));
        Due.due("2^63 does not fit", t, -8);
        Due.due("failed(0)", x.failed(0), 3);
        Due.due("failed(1)", x.failed(1), -1);
        int d = Engine.grid(x, 4, new int[] {3, 3}, Integer.MIN_VALUE, 0, 0, -1, Integer.MIN_VALUE, 0, 0, -1, 1);
        int u = x.solve(d, Engine.ints(x, 1, 0, 0));
        Due.due("numerators", Engine.cells(x, u), -1, 1, 1);
        Due.due("denominators", Engine.cells(x, u + 1), 1L << 31, 1L << 62, 1L << 62);
        int e = Engine.grid(x, 4, new int[] {3, 3}, Integer.MIN_VALUE, 0, 0, -1, Integer.MIN_VALUE, 0, 0, -1, 2);
        Due.due("a denominator 2^63", x.solve(e, Engine.ints(x, 1, 0, 0)), -8);
        Due.due("failed(0)", x.failed(0), 2);
    }

    /** Ten rows whose determinant is a great power of two. */
    private static void greatPowers() {
        GridEngine x = new GridEngine();
        long[] cells = new long[100];
        int[] right = new int[10];
        long[] tops = new long[10];
        long[] lows = new long[10];
        for (int k = 0; k < 10; k++) {
            cells[11 * k] = 1 << 30;
            right[k] = 3 << k;
            tops[k] = 3;
            lows[k] = 1L << (30 - k);
        }
        int s = x.solve(Engine.grid(x, 4, new int[] {10, 10}, cells), Engine.ints(x, right));
        Due.due("numerators", Engine.cells(x, s), tops);
        Due.due("denominators", Engine.cells(x, s + 1), lows);
    }

    /**
     * Three fifths, as 3 g / 5 g with a g of more than 64 digits: 5 g - 3 g borrows through a row of ones.
     * y1 = 2^30 y0, y2 = 2^30 y1, z0 = 1, z1 = 2^30 z0, z2 = 2^30 z1, and 5 g y0 = 3 g z0 by their digits.
     */
    private static void longBorrows() {
        int[][] fives = {{183298737, 1073741821, 79}, {335493959, 1073741823, 159}, {147131073, 1073741817, 319}, {283595987, 1073741816, 479}};
        int[][] threes = {{324727607, 1073741822, 47}, {630793105, 1073741823, 95}, {947272103, 1073741819, 191}, {384905957, 1073741819, 287}};
        int b = 1 << 30;
        for (int k = 0; k < fives.length; k++) {
            GridEngine x = new GridEngine();
            int[] f = fives[k];
            int[] t = threes[k];
            int a = Engine.grid(x, 4, new int[] {6, 6},
                -b, 1, 0, 0, 0, 0,
                0, -b, 1, 0, 0, 0,
                0, 0, 0, 1, 0, 0,
                0, 0, 0, -b, 1, 0,
                0, 0, 0, 0, -b, 1,
                f[0], f[1], f[2], -t[0], -t[1], -t[2]);
            int s = x.solve(a, Engine.ints(x, 0, 0, 1, 0, 0, 0));
            Due.due("numerators", Engine.cells(x, s), 3, 3L * b, 3L * b * b, 1, b, (long) b * b);
            Due.due("denominators", Engine.cells(x, s + 1), 5, 5, 5, 1, 1, 1);
        }
    }

    private static void residues() {
        GridEngine x = new GridEngine();
        int g = Engine.ints(x, 0, 1, 0, 0);
        Due.due("W is 13", Engine.cells(x, x.residues(g, 17, false)), 1, 13, 16, 4);
        Due.due("lane", x.lane(2), 5);
        Due.due("back", Engine.cells(x, x.residues(2, 17, true)), 0, 1, 0, 0);
        int one = Engine.row(x, 5, -1);
        Due.due("n 1", Engine.cells(x, x.residues(one, 3, false)), 2);
        Due.due("n 1 back", Engine.cells(x, x.residues(one, 3, true)), 2);
        Due.due("n 1, the greatest prime", Engine.cells(x, x.residues(one, 1000000007, true)), 1000000006);
        int two = Engine.row(x, 1, 5, -3);
        Due.due("n 2", Engine.cells(x, x.residues(two, 1000000007, false)), 2, 8);
        Due.due("p 2", x.residues(one, 2, false), -1);
        Due.due("p 1", x.residues(one, 1, false), -1);
        Due.due("p 0", x.residues(one, 0, false), -1);
        Due.due("p -3", x.residues(one, -3, false), -1);
        Due.due("p 9", x.residues(one, 9, false), -1);
        Due.due("p 31607^2", x.residues(one, 31607 * 31607, false), -1);
        Due.due("p 1000000009", x.residues(one, 1000000009, false), -1);
        Due.due("n does not divide p - 1", x.residues(g, 7, false), -1);
        Due.due("n 3", x.residues(Engine.ints(x, 1, 2, 3), 7, false), -1);
        Due.due("n 0", x.residues(Engine.grid(x, 4, new int[] {0}), 7, false), -1);
        Due.due("n 2048", x.residues(Engine.grid(x, 4, new int[] {2048}), 12289, false), -1);
        Due.due("n 1024", x.cells(x.residues(Engine.grid(x, 4, new int[] {1024}), 12289, false)), 1024);
        Due.due("floats", x.residues(Engine.floats(x, 1f), 7, false), -1);
        Due.due("booleans", x.residues(Engine.row(x, 0, 1), 7, false), -1);
        Due.due("two axes", x.residues(Engine.grid(x, 4, new int[] {1, 1}), 7, false), -1);
        Due.due("no axes", x.residues(x.grid(4), 7, false), -1);
        Due.due("absent", x.residues(999, 7, false), -14);
        int wide = Engine.row(x, 5, Long.MIN_VALUE, Long.MAX_VALUE);
        Due.due("longs", Engine.cells(x, x.residues(wide, 998244353, false)),
            Math.floorMod(Math.floorMod(Long.MIN_VALUE, 998244353L) + Math.floorMod(Long.MAX_VALUE, 998244353L), 998244353L),
            Math.floorMod(Math.floorMod(Long.MIN_VALUE, 998244353L) - Math.floorMod(Long.MAX_VALUE, 998244353L), 998244353L));
        while (x.lane(400) < 0) {
            x.turned(g, 0, 0);
        }
        Due.due("no room", x.residues(g, 17, false), -12);
        Due.due("1 before 12", x.residues(g, 7, false), -1);
    }

    private static void randomProduct() {
        GridEngine x = new GridEngine();
        int n = RANDOM.nextInt(4);
        int m = RANDOM.nextInt(4);
        int r = RANDOM.nextInt(4);
        int la = 1 + RANDOM.nextInt(7);
        int lb = 1 + RANDOM.nextInt(7);
        int lane = Reference.wider(la, lb);
        long[] a = new long[n * m];
        long[] b = new long[m * r];
        for (int k = 0; k < a.length; k++) {
            a[k] = ArithmeticTest.randomBits(la);
        }
        for (int k = 0; k < b.length; k++) {
            b[k] = ArithmeticTest.randomBits(lb);
        }
        int p = x.product(Engine.grid(x, la, new int[] {n, m}, a), Engine.grid(x, lb, new int[] {m, r}, b));
        for (int k = 0; k < n * r; k++) {
            Reference.Value sum = new Reference.Value(4, 0).in(lane);
            try {
                for (int j = 0; j < m; j++) {
                    Reference.Value left = new Reference.Value(la, a[k / r * m + j]);
                    Reference.Value right = new Reference.Value(lb, b[j * r + k % r]);
                    sum = Reference.binary("+", sum, Reference.binary("*", left.in(lane), right.in(lane)));
                }
            } catch (Reference.Stop s) {
                Due.due("product", p, -8);
                Due.due("failed(0)", x.failed(0), k / r);
                Due.due("failed(1)", x.failed(1), k % r);
                return;
            }
            if (p > 0) {
                Due.due("product's cell", x.cell(p, k), sum.bits());
            }
        }
        Due.due("product", p, 3);
        Due.due("lane", x.lane(p), lane);
    }

    /** Against elimination with whole numbers of any size. */
    private static void randomSolution(int round) {
        GridEngine x = new GridEngine();
        int n = 1 + RANDOM.nextInt(10);
        int kind = round % 5;
        int[] lanes = {1, 4, 4, 2, 3};
        int lane = lanes[kind];
        long[] a = new long[n * n];
        long[] b = new long[n];
        for (int k = 0; k < a.length; k++) {
            a[k] = entry(kind);
        }
        for (int k = 0; k < n; k++) {
            b[k] = entry(kind);
        }
        if (kind == 2 && n > 1 && RANDOM.nextBoolean()) {
            // Few unknowns at a time: then the numbers stay short.
            for (int k = 0; k < a.length; k++) {
                a[k] = k / n == k % n ? 1 + RANDOM.nextInt(9) : k / n == k % n + 1 ? RANDOM.nextInt(5) - 2 : 0;
            }
        }
        if (n > 2 && RANDOM.nextInt(8) == 0) {
            for (int k = 0; k < n; k++) {
                a[(n - 1) * n + k] = lane == 4 ? a[k] + 0 : a[k];
            }
        }
        int s = x.solve(Engine.grid(x, lane, new int[] {n, n}, a), Engine.row(x, lane, b));
        BigInteger det = determinant(a, b, n, -1);
        if (det.signum() == 0) {
            Due.due("solve, singular", s, -6);
            return;
        }
        for (int k = 0; k < n; k++) {
            BigInteger num = determinant(a, b, n, k);
            BigInteger g = num.gcd(det);
            BigInteger top = num.divide(g);
            BigInteger low = det.divide(g);
            if (low.signum() < 0) {
                top = top.negate();
                low = low.negate();
            }
            if (top.bitLength() > 63 || low.bitLength() > 63) {
                Due.due("solve, beyond", s, -8);
                Due.due("failed(0)", x.failed(0), k);
                return;
            }
            if (s > 0) {
                Due.due("numerator", x.cell(s, k), top.longValueExact());
                Due.due("denominator", x.cell(s + 1, k), low.longValueExact());
            }
        }
        Due.due("solve", s, 3);
    }

    private static long entry(int kind) {
        if (kind == 0) {
            return RANDOM.nextInt(7) - 3;
        }
        if (kind == 1) {
            return RANDOM.nextInt(3) == 0 ? (RANDOM.nextBoolean() ? Integer.MIN_VALUE : Integer.MAX_VALUE) : RANDOM.nextInt();
        }
        return kind == 2 ? RANDOM.nextInt(200) - 100 : kind == 3 ? RANDOM.nextInt(5) - 2 : RANDOM.nextInt(4);
    }

    private static BigInteger determinant(long[] a, long[] b, int n, int replaced) {
        BigInteger[][] m = new BigInteger[n][n];
        for (int i = 0; i < n; i++) {
            for (int j = 0; j < n; j++) {
                m[i][j] = BigInteger.valueOf(j == replaced ? b[i] : a[i * n + j]);
            }
        }
        BigInteger before = BigInteger.ONE;
        int sign = 1;
        for (int k = 0; k < n; k++) {
            int p = k;
            while (p < n && m[p][k].signum() == 0) {
                p++;
            }
            if (p == n) {
                return BigInteger.ZERO;
            }
            if (p != k) {
                BigInteger[] held = m[p];
                m[p] = m[k];
                m[k] = held;
                sign = -sign;
            }
            for (int i = k + 1; i < n; i++) {
                for (int j = k + 1; j < n; j++) {
                    m[i][j] = m[i][j].multiply(m[k][k]).subtract(m[i][k].multiply(m[k][j])).divide(before);
                }
            }
            before = m[k][k];
        }
        return sign < 0 ? before.negate() : before;
    }

    private static void randomTransform() {
        GridEngine x = new GridEngine();
        int[] primes = {3, 5, 17, 97, 193, 257, 12289, 7681, 998244353, 469762049, 167772161, 1000000007, 65537};
        long p = primes[RANDOM.nextInt(primes.length)];
        int n = 1 << RANDOM.nextInt(6);
        int lane = 1 + RANDOM.nextInt(5);
        long[] cells = new long[n];
        for (int k = 0; k < n; k++) {
            cells[k] = ArithmeticTest.randomBits(lane);
        }
        int g = Engine.row(x, lane, cells);
        int t = x.residues(g, (int) p, false);
        if ((p - 1) % n != 0) {
            Due.due("residues", t, -1);
            return;
        }
        BigInteger prime = BigInteger.valueOf(p);
        BigInteger w = BigInteger.ONE;
        for (long h = 2; n > 1; h++) {
            w = BigInteger.valueOf(h).modPow(BigInteger.valueOf((p - 1) / n), prime);
            if (w.modPow(BigInteger.valueOf(n / 2), prime).equals(prime.subtract(BigInteger.ONE))) {
                break;
            }
        }
        int back = x.residues(t, (int) p, true);
        int inverse = x.residues(g, (int) p, true);
        for (int k = 0; k < n; k++) {
            BigInteger sum = BigInteger.ZERO;
            BigInteger other = BigInteger.ZERO;
            for (int j = 0; j < n; j++) {
                sum = sum.add(BigInteger.valueOf(cells[j]).multiply(w.modPow(BigInteger.valueOf((long) j * k), prime)));
                other = other.add(BigInteger.valueOf(cells[j]).multiply(w.modInverse(prime).modPow(BigInteger.valueOf((long) j * k), prime)));
            }
            Due.due("transform", x.cell(t, k), sum.mod(prime).longValueExact());
            Due.due("there and back", x.cell(back, k), Math.floorMod(cells[k], p));
            Due.due("back", x.cell(inverse, k), other.multiply(BigInteger.valueOf(n).modInverse(prime)).mod(prime).longValueExact());
        }
    }
}
