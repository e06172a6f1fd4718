import java.util.ArrayList;
import java.util.List;
import java.util.Random;

/** Promises 22 and 25: every operator, built-in function and cast against the language's own. */
final class ArithmeticTest {
    private static final Random RANDOM = new Random(1);

    /** Products that are rounded otherwise if the lowest digit of their upper half is wrong. */
    private static void hardProducts() {
        long[][] pairs = {{0x18a2b509a3d64dL, 0x13e1f3692656c7L}, {0x13792038feb749L, 0x1691818fbf34f3L},
            {0x10a34d312c2d1cL, 0x12e933856f6487L}, {0x16beac86f12bceL, 0x1e640829bb6bd8L}};
        GridEngine x = new GridEngine();
        for (long[] pair : pairs) {
            double a = pair[0];
            double b = pair[1];
            x.bind(0, Engine.doubles(x, a));
            x.bind(1, Engine.doubles(x, b));
            Due.due("a * b", x.cell(Engine.formula(x, "a * b"), 0), Engine.bits(a * b));
        }
    }

    /** Sums and rests in which what is far below the last digit decides, or that have the least numbers. */
    private static void hardPairs() {
        double tiny = Double.MIN_VALUE;
        double[] some = {1, 0x1p-53, 0x1.8p-53, 0x1p-53 + 0x1p-100, 0x1p-53 + 0x1p-105, 0x1p-54, 0x1.fffffffffffffp-54, 1 + 0x1p-52, 0x1p-200, 3, 1e10, 1e300,
            tiny, 2 * tiny, 3 * tiny, 5 * tiny, 1000003 * tiny, Double.MIN_NORMAL, Double.MIN_NORMAL - tiny, Double.MIN_NORMAL + 7 * tiny, 0x1.5555555555555p-1000,
            0x1.fffffffffffffp0, 0x1p-52, 0x1p53, 0x1p53 + 2, 0.5, 0x1.8p-52, Double.MAX_VALUE, 0x1p970, 0x1p969, 7e-320, 0x1.0000000000001p-1022};
        GridEngine x = new GridEngine();
        double[] both = new double[2 * some.length];
        for (int k = 0; k < some.length; k++) {
            both[2 * k] = some[k];
            both[2 * k + 1] = -some[k];
        }
        int row = Engine.doubles(x, both);
        x.bind(0, Engine.view(x, row, ":,*"));
        x.bind(1, row);
        for (String op : new String[] {"+", "-", "*", "/", "%"}) {
            int g = Engine.formula(x, "a " + op + " b");
            for (int n = 0; n < both.length * both.length; n++) {
                Reference.Value a = new Reference.Value(7, Engine.bits(both[n / both.length]));
                Reference.Value b = new Reference.Value(7, Engine.bits(both[n % both.length]));
                Due.due(a.asDouble() + " " + op + " " + b.asDouble(), x.cell(g, n), Reference.binary(op, a, b).bits());
            }
        }
        int g = Engine.formula(x, "sqrt(abs(b))");
        for (int n = 0; n < both.length; n++) {
            Due.due("root of " + both[n], x.cell(g, n), Engine.bits(Math.sqrt(Math.abs(both[n]))));
        }
    }

    public static void main(String[] args) {
        casts();
        hardProducts();
        hardPairs();
        for (int round = 0; round < 12; round++) {
            for (int a = 0; a < 8; a++) {
                for (int b = 0; b < 8; b++) {
                    operators(a, b);
                }
                alone(a);
            }
        }
        Due.finish();
    }

    static long randomBits(int lane) {
        int kind = RANDOM.nextInt(6);
        switch (lane) {
            case 0: return RANDOM.nextInt(2);
            case 1: return (byte) RANDOM.nextInt();
            case 2: return (short) RANDOM.nextInt();
            case 3: return (char) RANDOM.nextInt();
            case 4: return kind == 0 ? pickInt() : kind < 3 ? RANDOM.nextInt(11) - 5 : RANDOM.nextInt() >> RANDOM.nextInt(32);
            case 5: return kind == 0 ? pickLong() : kind < 3 ? RANDOM.nextInt(11) - 5 : RANDOM.nextLong() >> RANDOM.nextInt(64);
            case 6: return Engine.bits(randomFloat(kind));
            default: return Engine.bits(randomDouble(kind));
        }
    }

    private static int pickInt() {
        int[] edges = {Integer.MIN_VALUE, Integer.MAX_VALUE, -1, 0, 1, Integer.MIN_VALUE + 1, 65535, 65536, -32769, 16777217};
        return edges[RANDOM.nextInt(edges.length)];
    }

    private static long pickLong() {
        long[] edges = {Long.MIN_VALUE, Long.MAX_VALUE, -1, 0, 1, Long.MIN_VALUE + 1, 1L << 53, (1L << 53) + 1, (1L << 53) + 3,
            Long.MAX_VALUE - 511, Long.MAX_VALUE - 512, Long.MAX_VALUE - 1023, 1L << 62, Integer.MAX_VALUE + 1L, (1L << 24) + 1,
            0x7fffff4000000000L, 0x7fffffbfffffffffL, 0x7fffffc000000000L};
        return edges[RANDOM.nextInt(edges.length)];
    }

    private static float randomFloat(int kind) {
        float[] edges = {0f, -0f, 1f, -1f, 0.5f, 1.5f, 2.5f, -0.5f, Float.MAX_VALUE, Float.MIN_VALUE, -Float.MIN_VALUE, Float.MIN_NORMAL,
            Float.POSITIVE_INFINITY, Float.NEGATIVE_INFINITY, 2.1474836E9f, -2.1474836E9f, 9.223372E18f, -9.223372E18f, 8388607.5f};
        if (kind == 0) {
            return edges[RANDOM.nextInt(edges.length)];
        }
        if (kind == 1) {
            return (RANDOM.nextInt(41) - 20) / 4f;
        }
        if (kind == 2) {
            return RANDOM.nextFloat() * 1000f;
        }
        float f = Float.intBitsToFloat(RANDOM.nextInt());
        return Float.isNaN(f) ? 3f : f;
    }

    private static double randomDouble(int kind) {
        double[] edges = {0.0, -0.0, 1, -1, 0.5, 1.5, 2.5, -0.5, -1.5, Double.MAX_VALUE, Double.MIN_VALUE, -Double.MIN_VALUE, Double.MIN_NORMAL,
            Double.POSITIVE_INFINITY, Double.NEGATIVE_INFINITY, 0x1p63, -0x1p63, 0x1p31, -0x1p31 - 1, 0x1p52, 0x1p52 + 1, 4503599627370495.5, 0.49999999999999994,
            3.4028235677973366E38, 3.4028235677973362E38, 1.401298464324817E-45, 7.006492321624085E-46, 7.006492321624086E-46, 0x1p53, 0x1p63 - 1024};
        if (kind == 0) {
            return edges[RANDOM.nextInt(edges.length)];
        }
        if (kind == 1) {
            return (RANDOM.nextInt(41) - 20) / 4.0;
        }
        if (kind == 2) {
            return RANDOM.nextDouble() * 1000 * (RANDOM.nextBoolean() ? 1 : 1e6);
        }
        if (kind == 3) {
            return (double) Float.intBitsToFloat(RANDOM.nextInt() & 0x7f7fffff);
        }
        double d = Double.longBitsToDouble(RANDOM.nextLong());
        return Double.isNaN(d) ? 3.0 : d;
    }

    private static void casts() {
        for (int round = 0; round < 8; round++) {
            GridEngine x = new GridEngine();
            for (int a = 1; a < 8; a++) {
                for (int b = 1; b < 8; b++) {
                    for (int rule = 0; rule < 4; rule++) {
                        if (x.cells(1) != -14 && x.axes(350) >= 0) {
                            x = new GridEngine();
                        }
                        castRow(x, a, b, rule);
                    }
                }
                x = new GridEngine();
            }
        }
    }

    private static void castRow(GridEngine x, int a, int b, int rule) {
        int n = 40;
        long[] bits = new long[n];
        long[] want = new long[n];
        int first = -1;
        for (int k = 0; k < n; k++) {
            bits[k] = randomBits(a);
            Reference.Value r = Reference.cast(new Reference.Value(a, bits[k]), b, rule);
            if (r == null && (first >= 0 || k < n / 2)) {
                k--;
                continue;
            }
            if (r == null) {
                first = k;
            }
            want[k] = r == null ? 0 : r.bits();
        }
        int g = Engine.row(x, a, bits);
        int h = x.cast(g, b, rule);
        String call = "cast " + Engine.LANES[a] + " to " + Engine.LANES[b] + " by " + rule;
        if (first >= 0) {
            Due.due(call, h, -8);
            Due.due(call + " failed(0) of " + bits[first], x.failed(0), first);
            Due.due(call + " failed(1)", x.failed(1), -1);
            return;
        }
        Due.due(call, x.lane(h), b);
        Due.due(call + " failed(0)", x.failed(0), -1);
        for (int k = 0; k < n; k++) {
            Due.due(call + " of " + bits[k], x.cell(h, k), want[k]);
        }
    }

    private static void operators(int a, int b) {
        GridEngine x = new GridEngine();
        String[] ops = "| ^ & == != < > <= >= << >> >>> + - * / %".split(" ");
        for (String op : ops) {
            if (Reference.binaryLane(op, a, b) >= 0) {
                run(x, a, b, "a " + op + " b", (v, w) -> Reference.binary(op, v, w));
            }
        }
        for (String name : Reference.TWO) {
            int lane = Reference.builtInLane(name, new int[] {a, b});
            if (lane >= 0) {
                run(x, a, b, name + "(a, b)", (v, w) -> Reference.builtInValue(name, lane, new Reference.Value[] {v, w}));
            }
        }
    }

    private static void alone(int a) {
        GridEngine x = new GridEngine();
        for (String name : Reference.ONE) {
            int lane = Reference.builtInLane(name, new int[] {a});
            if (lane >= 0) {
                run(x, a, a, name + "(a)", (v, w) -> Reference.builtInValue(name, lane, new Reference.Value[] {v}));
            }
        }
        if (a > 0) {
            run(x, a, a, "-a", (v, w) -> Reference.unary("-", v));
        }
        for (int b = 1; a > 0 && b < 8; b++) {
            int lane = b;
            run(x, a, a, "(" + Engine.LANES[b] + ") a", (v, w) -> Reference.plainCast(v, lane));
        }
    }

    interface Native {
        Reference.Value of(Reference.Value v, Reference.Value w);
    }

    private static void run(GridEngine x, int a, int b, String text, Native ours) {
        int n = 30;
        List<Long> left = new ArrayList<>();
        List<Long> right = new ArrayList<>();
        List<Reference.Value> want = new ArrayList<>();
        int failing = -1;
        for (int tries = 0; tries < 400 && left.size() < n; tries++) {
            long p = randomBits(a);
            long q = RANDOM.nextInt(8) == 0 && a == b ? p : randomBits(b);
            Reference.Value r = null;
            try {
                r = ours.of(new Reference.Value(a, p), new Reference.Value(b, q));
            } catch (Reference.Stop s) {
                if (failing >= 0 || left.size() < n - 2) {
                    continue;
                }
                failing = left.size();
            }
            left.add(p);
            right.add(q);
            want.add(r);
        }
        x.bind(0, Engine.row(x, a, left.stream().mapToLong(k -> k).toArray()));
        x.bind(1, Engine.row(x, b, right.stream().mapToLong(k -> k).toArray()));
        int h = Engine.formula(x, text);
        String call = Engine.LANES[a] + " " + Engine.LANES[b] + " " + text;
        if (failing >= 0) {
            Due.due(call, h, -8);
            Due.due(call + " failed(0)", x.failed(0), failing);
            Due.due(call + " steps()", x.steps(), failing + 1);
            return;
        }
        Due.due(call + " made", h > 0, true);
        Due.due(call + " lane", x.lane(h), want.get(0).lane());
        for (int k = 0; k < left.size(); k++) {
            Due.due(call + " of " + left.get(k) + ", " + right.get(k), x.cell(h, k), want.get(k).bits());
        }
    }
}
