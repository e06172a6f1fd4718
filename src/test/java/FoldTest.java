import java.util.ArrayList;
import java.util.Arrays;
import java.util.List;
import java.util.Random;
import java.util.TreeMap;

/** Promises 29 to 34: folds, running folds, orders, groups and joins. */
final class FoldTest {
    private static final Random RANDOM = new Random(5);
    private static final double INF = Double.POSITIVE_INFINITY;

    private FoldTest() {
    }

    public static void main(String[] args) {
        ways();
        refusals();
        ofNone();
        failures();
        running();
        sorted();
        search();
        groups();
        joins();
        rooms();
        wide();
        for (int round = 0; round < 1500; round++) {
            randomFold();
            randomOrder();
        }
        Due.finish();
    }

    private static void one(GridEngine x, int g, int way, int lane, long bits) {
        int f = x.fold(g, way, -1);
        Due.due("fold way " + way + " lane", x.lane(f), lane);
        Due.due("fold way " + way + " axes", x.axes(f), 0);
        Due.due("fold way " + way, x.cell(f, 0), bits);
    }

    private static void ways() {
        GridEngine x = new GridEngine();
        int b = Engine.row(x, 1, 100, 100, -7);
        one(x, b, 0, 4, 193);
        one(x, b, 1, 4, 193);
        one(x, b, 2, 4, -70000);
        one(x, b, 3, 1, -7);
        one(x, b, 4, 1, 100);
        int c = Engine.row(x, 3, 65535, 65535);
        one(x, c, 0, 4, 131070);
        one(x, c, 2, 4, 65535 * 65535);
        one(x, c, 4, 3, 65535);
        int i = Engine.ints(x, Integer.MAX_VALUE, 1);
        one(x, i, 0, 4, Integer.MIN_VALUE);
        int l = Engine.row(x, 5, Long.MAX_VALUE, 1);
        one(x, l, 0, 5, Long.MIN_VALUE);
        one(x, l, 2, 5, Long.MAX_VALUE);
        int f = Engine.floats(x, 1e8f, 1f, -1e8f);
        one(x, f, 0, 6, Engine.bits(1e8f + 1f - 1e8f));
        one(x, f, 2, 6, Engine.bits(1e8f * 1f * -1e8f));
        one(x, f, 3, 6, Engine.bits(-1e8f));
        one(x, f, 8, 6, Engine.bits(1e8f + (1f - 1e8f)));
        int d = Engine.doubles(x, 0.1, 0.2, 0.3, 0.4, 0.5);
        one(x, d, 0, 7, Engine.bits(0.0 + 0.1 + 0.2 + 0.3 + 0.4 + 0.5));
        one(x, d, 8, 7, Engine.bits((0.1 + 0.2) + (0.3 + (0.4 + 0.5))));
        int z = Engine.doubles(x, -0.0);
        one(x, z, 0, 7, 0);
        one(x, z, 8, 7, Engine.bits(-0.0));
        int zz = Engine.doubles(x, 0.0, -0.0, 0.0);
        one(x, zz, 3, 7, Engine.bits(-0.0));
        one(x, zz, 4, 7, 0);
        int t = Engine.row(x, 0, 1, 0, 1, 1);
        one(x, t, 5, 4, 3);
        one(x, t, 6, 0, 0);
        one(x, t, 7, 0, 1);
        int m = Engine.grid(x, 4, new int[] {2, 3}, 1, 2, 3, 4, 5, 6);
        Due.due("along axis 0", Engine.cells(x, x.fold(m, 0, 0)), 5, 7, 9);
        Due.due("along axis 1", Engine.cells(x, x.fold(m, 0, 1)), 6, 15);
        Due.due("all", Engine.cells(x, x.fold(m, 2, -1)), 720);
        int v = x.turned(Engine.view(x, m, ",".substring(1) + "::-1"), 0, 1);
        Due.due("of a view", Engine.cells(x, x.fold(v, 0, 0)), 15, 6);
        Due.due("shape", Engine.shape(x, x.fold(Engine.view(x, m, "*"), 4, 1)), "1x3");
        int one = x.grid(4);
        x.put(one, 4, 5);
        Due.due("of a grid without axes", Engine.cells(x, x.fold(one, 0, -1)), 5);
    }

    private static void refusals() {
        GridEngine x = new GridEngine();
        int b = Engine.row(x, 0, 1, 0);
        int i = Engine.ints(x, 1, 2);
        int d = Engine.doubles(x, 1, 2);
        int[] forBooleans = {-1, -1, -1, -1, -1, 0, 0, 0, -1};
        int[] forInts = {0, 0, 0, 0, 0, -1, -1, -1, -1};
        int[] forDoubles = {0, -1, 0, 0, 0, -1, -1, -1, 0};
        for (int way = 0; way < 9; way++) {
            Due.due("fold of booleans " + way, Math.min(0, x.fold(b, way, 0)), forBooleans[way]);
            Due.due("fold of ints " + way, Math.min(0, x.fold(i, way, 0)), forInts[way]);
            Due.due("fold of doubles " + way, Math.min(0, x.fold(d, way, 0)), forDoubles[way]);
            boolean there = way != 5 && way != 8;
            Due.due("running of booleans " + way, Math.min(0, x.running(b, way, 0)), there ? forBooleans[way] : -14);
            Due.due("running of ints " + way, Math.min(0, x.running(i, way, 0)), there ? forInts[way] : -14);
            Due.due("running of doubles " + way, Math.min(0, x.running(d, way, 0)), there ? forDoubles[way] : -14);
        }
        Due.due("way 9", x.fold(i, 9, 0), -14);
        Due.due("way -1", x.fold(i, -1, 0), -14);
        Due.due("axis -2", x.fold(b, 0, -2), -14);
        Due.due("axis 1", x.fold(i, 0, 1), -2);
        Due.due("axis 1, wrong lane", x.fold(b, 0, 1), -1);
        Due.due("grid 999", x.fold(999, 0, 0), -14);
        Due.due("running way 9", x.running(i, 9, 0), -14);
        Due.due("running axis -2", x.running(b, 0, -2), -14);
        Due.due("running axis 1", x.running(i, 0, 1), -2);
        Due.due("running axis 1, wrong lane", x.running(b, 0, 1), -1);
        Due.due("running grid 999", x.running(999, 0, 0), -14);
        Due.due("sorted 999", x.sorted(999, true), -14);
        Due.due("search 999", x.search(999, 0), -14);
        Due.due("groups 999", x.groups(999, i, 0), -14);
        Due.due("groups 999", x.groups(i, 999, 0), -14);
        Due.due("groups way 8", x.groups(d, d, 8), -14);
        Due.due("groups way -1", x.groups(d, d, -1), -14);
        Due.due("join 999", x.join(999, i), -14);
        Due.due("join 999", x.join(i, 999), -14);
        x.crash(0);
        Due.due("fold, closed", x.fold(999, 99, 99), -13);
        Due.due("running, closed", x.running(999, 99, 99), -13);
        Due.due("sorted, closed", x.sorted(999, false), -13);
        Due.due("search, closed", x.search(999, 0), -13);
        Due.due("groups, closed", x.groups(999, 999, 99), -13);
        Due.due("join, closed", x.join(999, 999), -13);
    }

    private static void ofNone() {
        GridEngine x = new GridEngine();
        int d = Engine.grid(x, 7, new int[] {0});
        int b = Engine.grid(x, 0, new int[] {0});
        one(x, d, 0, 7, 0);
        one(x, d, 2, 7, Engine.bits(1.0));
        one(x, d, 8, 7, 0);
        one(x, b, 5, 4, 0);
        one(x, b, 6, 0, 1);
        one(x, b, 7, 0, 0);
        int f = Engine.grid(x, 6, new int[] {0});
        one(x, f, 2, 6, Engine.bits(1f));
        Due.due("least of none", x.fold(d, 3, -1), -4);
        Due.due("failed(0): no axes", x.failed(0), -1);
        Due.due("greatest of none", x.fold(d, 4, 0), -4);
        int m = Engine.grid(x, 4, new int[] {3, 0, 2});
        Due.due("least of none", x.fold(m, 3, 1), -4);
        Due.due("failed(0)", x.failed(0), 0);
        Due.due("failed(1)", x.failed(1), 0);
        Due.due("failed(2)", x.failed(2), -1);
        Due.due("no cell to fail", Engine.shape(x, x.fold(m, 3, 0)), "0x2");
        Due.due("failed(0)", x.failed(0), -1);
        Due.due("sums of none", Engine.cells(x, x.fold(m, 0, 1)), 0, 0, 0, 0, 0, 0);
        int twice = Engine.grid(x, 4, new int[] {0, 0});
        Due.due("no cell of none to fail", Engine.shape(x, x.fold(twice, 3, 0)), "0");
        int full = Engine.grid(x, 1, new int[] {400, 250, 0});
        Due.due("as many cells as a grid may have, but no room", x.fold(full, 0, 2), -12);
        GridEngine y = new GridEngine();
        int alone = Engine.grid(y, 1, new int[] {400, 250, 0});
        Due.due("as many cells as a grid may have", y.cells(y.fold(alone, 2, 2)), 100000);
        int big = Engine.grid(x, 4, new int[] {4096, 0, 4096});
        Due.due("too many sums of none", x.fold(big, 0, 1), -12);
        Due.due("4 before 12", x.fold(big, 4, 1), -4);
        Due.due("running of none", Engine.shape(x, x.running(m, 3, 1)), "3x0x2");
        Due.due("running of none, all", Engine.shape(x, x.running(m, 3, -1)), "3x0x2");
        Due.due("sorted none", x.cells(x.sorted(d, false)), 0);
        Due.due("search in none", x.search(d, 0), 0);
        int g = x.groups(d, d, 3);
        Due.due("groups of none", x.cells(g) + x.cells(g + 1), 0);
        Due.due("join of none", Engine.shape(x, x.join(d, d)), "0x2");
    }

    private static void failures() {
        GridEngine x = new GridEngine();
        int m = Engine.grid(x, 7, new int[] {2, 2}, Engine.bits(1.0), Engine.bits(INF), Engine.bits(2.0), Engine.bits(-INF));
        Due.due("sum of infinities", x.fold(m, 0, 0), -8);
        Due.due("failed(0)", x.failed(0), 1);
        Due.due("failed(1)", x.failed(1), -1);
        Due.due("along the other axis", Engine.cells(x, x.fold(m, 0, 1)), Engine.bits(INF), Engine.bits(-INF));
        Due.due("failed(0)", x.failed(0), -1);
        Due.due("paired", x.fold(m, 8, -1), -8);
        Due.due("least", x.cell(x.fold(m, 3, -1), 0), Engine.bits(-INF));
        int z = Engine.doubles(x, 0, INF);
        Due.due("product", x.fold(z, 2, -1), -8);
        int e = Engine.ints(x, Integer.MAX_VALUE, 1, -1);
        Due.due("exact sum: on the way", x.fold(e, 1, 0), -8);
        Due.due("running exact sum", x.running(e, 1, 0), -8);
        Due.due("failed(0)", x.failed(0), 1);
        int l = Engine.row(x, 5, Long.MIN_VALUE, -1);
        Due.due("exact sum of longs", x.fold(l, 1, -1), -8);
        int bytes = Engine.row(x, 1, 127, 127);
        Due.due("exact sum of bytes", x.cell(x.fold(bytes, 1, -1), 0), 254);
        Due.due("refused: failed is -1 again", x.fold(e, 1, 5), -2);
        x.running(e, 1, 0);
        x.fold(99, 0, 0);
        Due.due("failed", x.failed(0), -1);
        x.running(e, 1, 0);
        x.groups(e, e, 1);
        Due.due("groups() leaves failed()", x.failed(0), 1);
        x.sorted(e, true);
        Due.due("sorted() leaves failed()", x.failed(0), 1);
        x.cast(99, 0, 0);
        Due.due("cast(), refused, sets failed()", x.failed(0), -1);
    }

    private static void running() {
        GridEngine x = new GridEngine();
        int m = Engine.grid(x, 2, new int[] {2, 3}, 1, 2, 3, 4, 5, 6);
        int r = x.running(m, 0, 0);
        Due.due("lane", x.lane(r), 4);
        Due.due("shape", Engine.shape(x, r), "2x3");
        Due.due("axis 0", Engine.cells(x, r), 1, 2, 3, 5, 7, 9);
        Due.due("axis 1", Engine.cells(x, x.running(m, 2, 1)), 1, 2, 6, 4, 20, 120);
        Due.due("all", Engine.cells(x, x.running(m, 1, -1)), 1, 3, 6, 10, 15, 21);
        int i = Engine.row(x, 1, 3, 1, 2, 5, 4);
        Due.due("least", Engine.cells(x, x.running(i, 3, 0)), 3, 1, 1, 1, 1);
        Due.due("greatest", Engine.cells(x, x.running(i, 4, 0)), 3, 3, 3, 5, 5);
        Due.due("lane of the greatest", x.lane(x.running(i, 4, 0)), 1);
        int b = Engine.row(x, 0, 1, 0, 1);
        Due.due("all so far", Engine.cells(x, x.running(b, 6, 0)), 1, 0, 0);
        Due.due("any so far", Engine.cells(x, x.running(Engine.view(x, b, "1:"), 7, -1)), 0, 1);
        int d = Engine.grid(x, 7, new int[] {2, 2}, Engine.bits(INF), Engine.bits(1.0), Engine.bits(1.0), Engine.bits(-INF));
        Due.due("axis 0 is fine", x.running(d, 0, 0) > 0, true);
        Due.due("all fails", x.running(d, 0, -1), -8);
        Due.due("failed(0)", x.failed(0), 1);
        Due.due("failed(1)", x.failed(1), 1);
        int e = Engine.grid(x, 4, new int[] {3, 2}, Integer.MAX_VALUE, 5, 1, Integer.MAX_VALUE, -1, 0);
        Due.due("the first in row order", x.running(e, 1, 0), -8);
        Due.due("failed(0)", x.failed(0), 1);
        Due.due("failed(1)", x.failed(1), 0);
        int one = x.grid(4);
        Due.due("without axes", Engine.cells(x, x.running(one, 0, -1)), 0);
        Due.due("without axes, axis 0", x.running(one, 0, 0), -2);
    }

    private static void sorted() {
        GridEngine x = new GridEngine();
        int i = Engine.ints(x, 3, 1, 2, 1, 3);
        int s = x.sorted(i, false);
        Due.due("lane", x.lane(s), 4);
        Due.due("rising", Engine.cells(x, s), 1, 3, 2, 0, 4);
        Due.due("falling", Engine.cells(x, x.sorted(i, true)), 0, 4, 2, 1, 3);
        int d = Engine.doubles(x, 0.0, -0.0, -INF, INF, -1, 1e-320, -1e-320);
        Due.due("doubles", Engine.cells(x, x.sorted(d, false)), 2, 4, 6, 1, 0, 5, 3);
        int f = Engine.floats(x, 0f, -0f, -5f, 5f, -6f);
        Due.due("floats", Engine.cells(x, x.sorted(f, false)), 4, 2, 1, 0, 3);
        Due.due("floats, falling", Engine.cells(x, x.sorted(f, true)), 3, 0, 1, 2, 4);
        int b = Engine.row(x, 0, 1, 0, 1, 0);
        Due.due("booleans", Engine.cells(x, x.sorted(b, false)), 1, 3, 0, 2);
        Due.due("a view", Engine.cells(x, x.sorted(Engine.view(x, i, "::-1"), false)), 1, 3, 2, 0, 4);
        int l = Engine.row(x, 5, Long.MIN_VALUE, Long.MAX_VALUE, -1);
        Due.due("longs, falling", Engine.cells(x, x.sorted(l, true)), 1, 2, 0);
        int m = Engine.grid(x, 4, new int[] {1, 3});
        Due.due("two axes", x.sorted(m, false), -1);
        Due.due("no axes", x.sorted(x.grid(4), false), -1);
    }

    private static void search() {
        GridEngine x = new GridEngine();
        int i = Engine.ints(x, 3, 1, 2, 1, 3);
        Due.due("before 3", x.search(i, 3), 3);
        Due.due("before 1", x.search(i, 1), 0);
        Due.due("before 9", x.search(i, 9), 5);
        Due.due("before -9", x.search(i, -9), 0);
        Due.due("no int", x.search(i, 1L << 40), -1);
        int d = Engine.doubles(x, 0.0, -0.0, -INF, INF);
        Due.due("before 0.0", x.search(d, 0), 2);
        Due.due("before -0.0", x.search(d, Long.MIN_VALUE), 1);
        Due.due("before nothing", x.search(d, Engine.bits(Double.NaN)), -1);
        int b = Engine.row(x, 0, 1, 0, 1);
        Due.due("before true", x.search(b, 1), 1);
        Due.due("no boolean", x.search(b, 2), -1);
        int f = Engine.floats(x, -1f, 1f, -2f);
        Due.due("before -1", x.search(f, Engine.bits(-1f)), 1);
        Due.due("bits with a sign", x.search(f, -1), -1);
        Due.due("two axes", x.search(Engine.grid(x, 4, new int[] {2, 2}), 0), -1);
    }

    private static void groups() {
        GridEngine x = new GridEngine();
        int k = Engine.row(x, 1, 5, -1, 5, 3, -1);
        int v = Engine.ints(x, 1, 2, 3, 4, 5);
        int g = x.groups(k, v, 0);
        Due.due("keys' lane", x.lane(g), 1);
        Due.due("keys", Engine.cells(x, g), -1, 3, 5);
        Due.due("sums", Engine.cells(x, g + 1), 7, 4, 4);
        Due.due("the next number", x.lane(g + 2), -14);
        int d = Engine.doubles(x, 0.0, -0.0, 0.0, -0.0, 1);
        g = x.groups(d, v, 4);
        Due.due("zeros are unlike", Engine.cells(x, g), Long.MIN_VALUE, 0, Engine.bits(1.0));
        Due.due("greatest", Engine.cells(x, g + 1), 4, 3, 5);
        int b = Engine.row(x, 0, 1, 0, 1, 0, 1);
        g = x.groups(b, b, 5);
        Due.due("counts", Engine.cells(x, g + 1), 0, 3);
        g = x.groups(k, b, 6);
        Due.due("all", Engine.cells(x, g + 1), 0, 0, 1);
        g = x.groups(k, b, 7);
        Due.due("any", Engine.cells(x, g + 1), 1, 0, 1);
        int big = Engine.doubles(x, 1e17, 1, 3, 1, -1e17);
        g = x.groups(b, big, 0);
        Due.due("in the order of the cells", Engine.cells(x, g + 1), Engine.bits(2.0), Engine.bits(1e17 + 3 + -1e17));
        Due.due("wrong lane", x.groups(k, b, 0), -1);
        Due.due("two axes", x.groups(Engine.grid(x, 4, new int[] {5, 1}), v, 0), -1);
        Due.due("two axes", x.groups(v, Engine.grid(x, 4, new int[] {5, 1}), 0), -1);
        Due.due("unlike sizes", x.groups(v, Engine.ints(x, 1), 0), -3);
        Due.due("wrong lane before unlike sizes", x.groups(v, Engine.row(x, 0, 1), 0), -1);
        int e = Engine.ints(x, Integer.MAX_VALUE, 1, 1, 1, 1);
        Due.due("fails", x.groups(k, e, 1), -8);
        Due.due("wraps", x.groups(k, e, 0) > 0, true);
        int i = Engine.doubles(x, INF, 0, -INF, 0, 0);
        Due.due("no number", x.groups(k, i, 0), -8);
    }

    private static void joins() {
        GridEngine x = new GridEngine();
        int a = Engine.ints(x, 1, 2, 1, 3);
        int b = Engine.ints(x, 3, 1, 1, 9);
        int j = x.join(a, b);
        Due.due("lane", x.lane(j), 4);
        Due.due("shape", Engine.shape(x, j), "5x2");
        Due.due("pairs", Engine.cells(x, j), 0, 1, 0, 2, 2, 1, 2, 2, 3, 0);
        int d = Engine.doubles(x, 0.0, -0.0);
        Due.due("by bits", Engine.cells(x, x.join(d, d)), 0, 0, 1, 1);
        Due.due("unlike lanes", x.join(a, d), -1);
        Due.due("two axes", x.join(a, Engine.grid(x, 4, new int[] {2, 2})), -1);
        Due.due("two axes", x.join(Engine.grid(x, 4, new int[] {2, 2}), a), -1);
        Due.due("none", Engine.shape(x, x.join(a, Engine.ints(x, 7))), "0x2");
        int z = Engine.grid(x, 0, new int[] {64});
        Due.due("4096 pairs", Engine.shape(x, x.join(z, z)), "4096x2");
        int z2 = Engine.grid(x, 0, new int[] {65});
        Due.due("4160 pairs", x.join(z, z2), -12);
        int wide = Engine.grid(x, 0, new int[] {4096});
        Due.due("pairs without end", x.join(wide, wide), -12);
    }

    private static void rooms() {
        GridEngine x = new GridEngine();
        int i = Engine.ints(x, 2, 1);
        int bad = Engine.ints(x, Integer.MAX_VALUE, 1);
        int m = Engine.grid(x, 4, new int[] {1, 1}, 0);
        while (x.lane(399) < 0) {
            x.turned(i, 0, 0);
        }
        Due.due("groups need two grids", x.groups(i, i, 0), -12);
        int same = Engine.ints(x, 4, 4);
        Due.due("no grids are left", same, 400);
        Due.due("fold", x.fold(i, 0, 0), -12);
        Due.due("8 before 12", x.fold(bad, 1, 0), -8);
        Due.due("running", x.running(i, 0, 0), -12);
        Due.due("running: 8 before 12", x.running(bad, 1, 0), -8);
        Due.due("sorted", x.sorted(i, false), -12);
        Due.due("groups", x.groups(i, i, 0), -12);
        Due.due("groups: 8 before 12", x.groups(same, bad, 1), -8);
        Due.due("join", x.join(i, i), -12);
        Due.due("search needs none", x.search(i, 2), 1);
        Due.due("sorted: 1 before 12", x.sorted(m, false), -1);
    }

    /** As many cells as an axis may have. */
    private static void wide() {
        GridEngine x = new GridEngine();
        x.bind(0, Engine.grid(x, 1, new int[] {4096}));
        int g = Engine.formula(x, "a * 0 + (i * 1103515245 + 12345 >>> 3) % 997");
        long[] cells = Engine.cells(x, g);
        int s = x.sorted(g, false);
        long before = Long.MIN_VALUE;
        long last = -1;
        for (int n = 0; n < 4096; n++) {
            long place = x.cell(s, n);
            long value = cells[(int) place];
            Due.due("rising, and stable", value > before || value == before && place > last, true);
            before = value;
            last = place;
        }
        Due.due("search", x.search(g, 500), Arrays.stream(cells).filter(c -> c < 500).count());
        long[] unlike = Arrays.stream(cells).distinct().sorted().toArray();
        int k = x.groups(g, g, 0);
        Due.due("keys", Engine.cells(x, k), unlike);
        long[] sums = Arrays.stream(unlike).map(u -> u * Arrays.stream(cells).filter(c -> c == u).count()).toArray();
        Due.due("sums", Engine.cells(x, k + 1), sums);
        int i = Engine.formula(x, "a * 0 + i");
        int all = x.groups(i, i, 4);
        Due.due("4096 groups", Engine.cells(x, all + 1), Engine.cells(x, i));
        int pairs = x.join(i, Engine.view(x, i, "::-1"));
        Due.due("4096 pairs", Engine.shape(x, pairs), "4096x2");
        Due.due("the last pair", x.cell(pairs, 8190) * 10000 + x.cell(pairs, 8191), 40950000);
        Due.due("running", x.cell(x.running(i, 0, 0), 4095), 4095 * 2048);
        Due.due("paired", x.cell(x.fold(x.cast(i, 7, 0), 8, 0), 0), Engine.bits(4095.0 * 2048));
    }

    private static void randomFold() {
        GridEngine x = new GridEngine();
        int axes = 1 + RANDOM.nextInt(4);
        int[] sizes = new int[axes];
        int many = 1;
        for (int k = 0; k < axes; k++) {
            sizes[k] = 1 + RANDOM.nextInt(4);
            many *= sizes[k];
        }
        int lane = 1 + RANDOM.nextInt(7);
        int way = RANDOM.nextInt(5);
        if (way == 1 && lane > 5) {
            way = 0;
        }
        long[] bits = new long[many];
        for (int n = 0; n < many; n++) {
            bits[n] = lane < 6 ? RANDOM.nextInt(100) : lane == 6 ? Engine.bits(RANDOM.nextFloat()) : Engine.bits(RANDOM.nextDouble());
        }
        int g = Engine.grid(x, lane, sizes, bits);
        int axis = RANDOM.nextInt(axes + 1) - 1;
        int inner = 1;
        for (int k = axis + 1; k < axes && axis >= 0; k++) {
            inner *= sizes[k];
        }
        int length = axis < 0 ? many : sizes[axis];
        List<Long> folds = new ArrayList<>();
        long[] running = new long[many];
        for (int n = 0; n < many; n++) {
            if (axis < 0 ? n > 0 : n / inner % length > 0) {
                continue;
            }
            Reference.Value so = null;
            for (int k = 0; k < length; k++) {
                Reference.Value v = new Reference.Value(lane, bits[n + k * inner]);
                so = fold(way, so, v);
                running[n + k * inner] = so.bits();
            }
            folds.add(so.bits());
        }
        Due.due("fold " + way, Engine.cells(x, x.fold(g, way, axis)), folds.stream().mapToLong(k -> k).toArray());
        Due.due("running " + way, Engine.cells(x, x.running(g, way, axis)), running);
    }

    private static Reference.Value fold(int way, Reference.Value so, Reference.Value v) {
        if (way < 3) {
            int lane = Math.max(4, v.lane());
            Reference.Value begin = new Reference.Value(4, way == 2 ? 1 : 0).in(lane);
            return Reference.binary(way == 2 ? "*" : "+", so == null ? begin : so, v);
        }
        if (so == null) {
            return v;
        }
        boolean less = v.asDouble() < so.asDouble();
        boolean more = v.asDouble() > so.asDouble();
        return (way == 3 ? less : more) ? v : so;
    }

    private static void randomOrder() {
        GridEngine x = new GridEngine();
        int n = RANDOM.nextInt(20);
        int lane = RANDOM.nextInt(8);
        long[] bits = new long[n];
        long[] other = new long[n];
        for (int k = 0; k < n; k++) {
            bits[k] = ArithmeticTest.randomBits(lane);
            if (k > 0 && RANDOM.nextInt(3) == 0) {
                bits[k] = bits[RANDOM.nextInt(k)];
            }
            other[k] = RANDOM.nextInt(3) == 0 ? ArithmeticTest.randomBits(lane) : bits[RANDOM.nextInt(k + 1)];
        }
        int g = Engine.row(x, lane, bits);
        int h = Engine.row(x, lane, other);
        for (boolean falling : new boolean[] {false, true}) {
            Integer[] places = new Integer[n];
            Arrays.setAll(places, k -> k);
            Arrays.sort(places, (a, b) -> falling ? compare(lane, bits[b], bits[a]) : compare(lane, bits[a], bits[b]));
            Due.due("sorted", Engine.cells(x, x.sorted(g, falling)), Arrays.stream(places).mapToLong(k -> k).toArray());
        }
        long value = n > 0 ? other[0] : 0;
        Due.due("search", x.search(g, value), Arrays.stream(bits).filter(b -> compare(lane, b, value) < 0).count());
        List<Long> pairs = new ArrayList<>();
        for (int a = 0; a < n; a++) {
            for (int b = 0; b < n; b++) {
                if (bits[a] == other[b]) {
                    pairs.add((long) a);
                    pairs.add((long) b);
                }
            }
        }
        Due.due("join", Engine.cells(x, x.join(g, h)), pairs.stream().mapToLong(k -> k).toArray());
        TreeMap<Long, Long> counts = new TreeMap<>((a, b) -> compare(lane, a, b));
        for (long b : bits) {
            counts.merge(b, 1L, Long::sum);
        }
        long[] ones = new long[n];
        Arrays.fill(ones, 1);
        int keys = x.groups(g, Engine.row(x, 4, ones), 0);
        Due.due("groups' keys", Engine.cells(x, keys), counts.keySet().stream().mapToLong(k -> k).toArray());
        Due.due("groups' sums", Engine.cells(x, keys + 1), counts.values().stream().mapToLong(k -> k).toArray());
    }

    private static int compare(int lane, long a, long b) {
        if (lane == 6) {
            return Float.compare(Float.intBitsToFloat((int) a), Float.intBitsToFloat((int) b));
        }
        return lane == 7 ? Double.compare(Double.longBitsToDouble(a), Double.longBitsToDouble(b)) : Long.compare(a, b);
    }
}
