/** Promises 1 to 14: the tray, what is collected, and grids with their cells. */
final class TrayAndGridTest {
    private TrayAndGridTest() {
    }

    public static void main(String[] args) {
        newObject();
        tray();
        collecting();
        grids();
        puts();
        gets();
        widening();
        wrongBits();
        limits();
        Due.finish();
    }

    private static void newObject() {
        GridEngine x = new GridEngine();
        Due.due("lane(1)", x.lane(1), -14);
        Due.due("rows(1)", x.rows(1), -14);
        Due.due("logged()", x.logged(), 0);
        Due.due("code()", x.code(), 0);
        Due.due("place()", x.place(), -1);
        Due.due("failed(0)", x.failed(0), -1);
        Due.due("steps()", x.steps(), 0);
        Due.due("out(0)", x.out(0), -1);
        Due.due("reopen()", x.reopen(), -13);
        Due.due("functions() of nothing", x.functions(), 0);
        Due.due("axis(5) is the first", x.axis(5), 1);
        Due.due("at(5) is the first", x.at(5), 1);
    }

    private static void tray() {
        GridEngine x = new GridEngine();
        Due.due("end(1) of none", x.end(1), -1);
        Due.due("end(0)", x.end(0), 0);
        Due.due("feed", x.feed(0x01020304, 5, 6, 7, 0x80ff7f10), 20);
        Due.due("end(21)", x.end(21), -1);
        Due.due("end(-1)", x.end(-1), -1);
        Due.due("feed", x.feed(1, 2, 3, 4, 5), 40);
        Due.due("end(40)", x.end(40), 40);
        Due.due("end(7)", x.end(7), 7);
        Due.due("end(8)", x.end(8), -1);
        Due.due("feed behind 7", x.feed(1, 2, 3, 4, 5), 27);
        Due.due("feed", x.feed(0, 0, 0, 0, 0), 47);
        // The bytes' order: a name that is kept under, and opened by, the same bytes.
        x.end(0);
        x.feed(0x61626364, 0x65666768, 0, 0, 0);
        x.end(5);
        Engine.row(x, 4, 1);
        x.keep(1);
        Due.due("open(\"abcde\")", Engine.open(x, "abcde"), 2);
        Due.due("open(\"edcba\")", Engine.open(x, "edcba"), -14);
        GridEngine y = new GridEngine();
        for (int n = 1; n <= 800; n++) {
            Due.due("feed " + n, y.feed(n, n, n, n, n), 20 * n);
        }
        Due.due("feed beyond 16000", y.feed(1, 1, 1, 1, 1), -1);
        Due.due("end(15981)", y.end(15981), 15981);
        Due.due("feed beyond 16000", y.feed(1, 1, 1, 1, 1), -1);
        Due.due("end(15980)", y.end(15980), 15980);
        Due.due("feed to 16000", y.feed(1, 1, 1, 1, 1), 16000);
        GridEngine z = new GridEngine();
        for (int n = 0; n < 3276; n++) {
            z.end(0);
            Due.due("feed in all " + n, z.feed(n, n, n, n, n), 20);
        }
        z.end(0);
        Due.due("feed beyond 65536 in all", z.feed(0, 0, 0, 0, 0), -1);
        Due.due("end(1): none went in", z.end(1), -1);
    }

    private static void collecting() {
        GridEngine x = new GridEngine();
        Due.due("axis(-1)", x.axis(-1), -1);
        Due.due("axis(4097)", x.axis(4097), -1);
        Due.due("axis(4096)", x.axis(4096), 1);
        Due.due("axis(0)", x.axis(0), 2);
        Due.due("axis(1)", x.axis(1), 3);
        Due.due("axis(2)", x.axis(2), 4);
        Due.due("axis: a fifth", x.axis(2), -1);
        Due.due("grid", x.grid(4), 1);
        Due.due("shape", Engine.shape(x, 1), "4096x0x1x2");
        Due.due("axis is used up", x.axis(2), 1);
        Due.due("at(-5)", x.at(-5), 1);
        Due.due("at", x.at(Integer.MAX_VALUE), 2);
        Due.due("at", x.at(Integer.MIN_VALUE), 3);
        Due.due("at", x.at(0), 4);
        Due.due("at: a fifth", x.at(0), -1);
        Due.due("put of an absent grid", x.put(9, 4, 1), -14);
        Due.due("at is used up", x.at(0), 1);
    }

    private static void grids() {
        GridEngine x = new GridEngine();
        Due.due("grid(8)", x.grid(8), -14);
        Due.due("grid(-1)", x.grid(-1), -14);
        x.axis(3);
        Due.due("grid(9) uses sizes up", x.grid(9), -14);
        for (int lane = 0; lane < 8; lane++) {
            Due.due("grid(" + lane + ")", x.grid(lane), lane + 1);
            Due.due("lane", x.lane(lane + 1), lane);
            Due.due("axes", x.axes(lane + 1), 0);
            Due.due("cells", x.cells(lane + 1), 1);
            Due.due("cell", x.cell(lane + 1, 0), 0);
            Due.due("code", x.code(), 0);
        }
        x.axis(2);
        x.axis(3);
        x.axis(4);
        Due.due("grid 2x3x4", x.grid(7), 9);
        Due.due("axes", x.axes(9), 3);
        Due.due("size 0", x.size(9, 0), 2);
        Due.due("size 1", x.size(9, 1), 3);
        Due.due("size 2", x.size(9, 2), 4);
        Due.due("size 3", x.size(9, 3), -2);
        Due.due("size -1", x.size(9, -1), -2);
        Due.due("size of none", x.size(10, 0), -14);
        Due.due("cells", x.cells(9), 24);
        Due.due("lane of 0", x.lane(0), -14);
        Due.due("axes of -1", x.axes(-1), -14);
        Due.due("cells of 10", x.cells(10), -14);
        x.crash(0);
        Due.due("lane, closed", x.lane(9), -13);
        Due.due("axes, closed", x.axes(9), -13);
        Due.due("size, closed", x.size(9, 9), -13);
        Due.due("cells, closed", x.cells(9), -13);
        x.axis(3);
        Due.due("grid, closed", x.grid(9), -13);
        Due.due("axis was used up", x.axis(3), 1);
    }

    private static void puts() {
        GridEngine x = new GridEngine();
        int g = Engine.grid(x, 4, new int[] {2, 3}, 1, 2, 3, 4, 5, 6);
        Due.due("cells in row order", Engine.cells(x, g), 1, 2, 3, 4, 5, 6);
        int[][] wrong = {{2, 0}, {0, 3}, {-1, 0}, {0, -1}, {Integer.MIN_VALUE, 0}, {0, Integer.MAX_VALUE}};
        for (int[] spot : wrong) {
            x.at(spot[0]);
            x.at(spot[1]);
            Due.due("put at " + spot[0] + ", " + spot[1], x.put(g, 4, 9), -2);
        }
        x.at(0);
        Due.due("put with one index", x.put(g, 4, 9), -1);
        x.at(0);
        x.at(0);
        x.at(0);
        Due.due("put with three indexes", x.put(g, 4, 9), -1);
        x.at(5);
        x.at(5);
        Due.due("put of a long", x.put(g, 5, 9), -1);
        x.at(5);
        x.at(5);
        Due.due("put of bits too great", x.put(g, 4, 1L << 31), -1);
        x.at(0);
        Due.due("put of lane 8", x.put(g, 8, 9), -14);
        Due.due("put uses indexes up", x.put(g, 4, 9), -1);
        Due.due("nothing changed", Engine.cells(x, g), 1, 2, 3, 4, 5, 6);
        x.axis(2);
        x.axis(2);
        x.axis(3);
        int s = x.spread(g);
        x.at(9);
        x.at(9);
        x.at(9);
        Due.due("put into a spread view", x.put(s, 4, 9), -5);
        x.at(9);
        Due.due("put into a spread view, one index", x.put(s, 4, 9), -1);
        x.crash(0);
        x.at(0);
        x.at(0);
        Due.due("put, closed", x.put(g, 9, 9), -13);
        Due.due("at was used up", x.at(0), 1);
    }

    private static void gets() {
        GridEngine x = new GridEngine();
        int g = Engine.grid(x, 5, new int[] {2, 2}, 10, -20, 30, Long.MIN_VALUE);
        for (int n = 0; n < 4; n++) {
            x.at(n / 2);
            x.at(n % 2);
            x.cell(g, 9);
            long want = new long[] {10, -20, 30, Long.MIN_VALUE}[n];
            Due.due("get", x.get(g), want);
            Due.due("code behind get", x.code(), 0);
            x.cell(g, 9);
            Due.due("cell", x.cell(g, n), want);
            Due.due("code behind cell", x.code(), 0);
        }
        x.at(2);
        x.at(0);
        Due.due("get beyond", x.get(g), 0);
        Due.due("code", x.code(), 2);
        x.at(0);
        x.at(-1);
        Due.due("get below", x.get(g), 0);
        Due.due("code", x.code(), 2);
        x.at(7);
        Due.due("get with one index", x.get(g), 0);
        Due.due("code", x.code(), 1);
        Due.due("get of none", x.get(2), 0);
        Due.due("code", x.code(), 14);
        Due.due("cell", x.cell(g, 3), Long.MIN_VALUE);
        Due.due("code", x.code(), 0);
        Due.due("cell beyond", x.cell(g, 4), 0);
        Due.due("code", x.code(), 2);
        Due.due("cell below", x.cell(g, -1), 0);
        Due.due("code", x.code(), 2);
        Due.due("cell of none", x.cell(0, 0), 0);
        Due.due("code", x.code(), 14);
        Due.due("other calls leave code()", x.lane(g), 5);
        Due.due("code", x.code(), 14);
        x.crash(0);
        Due.due("code behind a crash", x.code(), 0);
        x.at(1);
        Due.due("get, closed", x.get(g), 0);
        Due.due("code", x.code(), 13);
        Due.due("at was used up", x.at(0), 1);
        x.reopen();
        x.cell(9, 9);
        Due.due("code", x.code(), 14);
        Due.due("cell of a lost grid", x.cell(g, 0), 0);
        x.crash(0);
        x.cell(1, 0);
        Due.due("code", x.code(), 13);
    }

    private static void widening() {
        GridEngine x = new GridEngine();
        long[] value = {1, -5, -300, 60000, -70000, (1L << 53) + 1, Engine.bits(1.5f), Engine.bits(2.5)};
        for (int from = 0; from < 8; from++) {
            for (int to = 0; to < 8; to++) {
                int g = x.grid(to);
                boolean fits = Reference.fits(from, to);
                Due.due("put " + from + " into " + to, x.put(g, from, value[from]), fits ? 0 : -1);
                long want = fits ? new Reference.Value(from, value[from]).in(to).bits() : 0;
                Due.due("get of " + to, x.get(g), want);
            }
        }
        int f = x.grid(6);
        x.put(f, 4, 16777217);
        Due.due("the nearest float, ties to even", x.get(f), Engine.bits(16777216f));
        x.put(f, 5, Long.MAX_VALUE);
        Due.due("the nearest float", x.get(f), Engine.bits(9.223372E18f));
        int d = x.grid(7);
        x.put(d, 6, Engine.bits(-0f));
        Due.due("minus zero", x.get(d), Engine.bits(-0.0));
        x.put(d, 6, Engine.bits(Float.MIN_VALUE));
        Due.due("the least float", x.get(d), Engine.bits((double) Float.MIN_VALUE));
    }

    private static void wrongBits() {
        GridEngine x = new GridEngine();
        long[][] fine = {
            {0, 1}, {-128, 127}, {-32768, 32767}, {0, 65535}, {Integer.MIN_VALUE, Integer.MAX_VALUE},
            {Long.MIN_VALUE, Long.MAX_VALUE}, {0, 0xff800000L, 0x7f800000L, 0x80000000L}, {0, Long.MIN_VALUE, 0x7ff0000000000000L, 0xfff0000000000000L}
        };
        long[][] wrong = {
            {-1, 2}, {-129, 128}, {-32769, 32768}, {-1, 65536}, {Integer.MIN_VALUE - 1L, Integer.MAX_VALUE + 1L},
            {}, {-1, 1L << 32, 0x7f800001L, 0xff800001L, 0x7fc00000L, 0xffffffffL}, {0x7ff0000000000001L, 0x7ff8000000000000L, -1, 0xfff0000000000001L}
        };
        for (int lane = 0; lane < 8; lane++) {
            int g = x.grid(lane);
            for (long bits : fine[lane]) {
                Due.due("put " + bits + " of lane " + lane, x.put(g, lane, bits), 0);
                Due.due("get", x.get(g), bits);
            }
            for (long bits : wrong[lane]) {
                Due.due("put " + bits + " of lane " + lane, x.put(g, lane, bits), -1);
            }
        }
    }

    private static void limits() {
        GridEngine x = new GridEngine();
        for (int n = 1; n <= 400; n++) {
            Due.due("grid " + n, x.grid(0), n);
        }
        Due.due("grid 401", x.grid(0), -12);
        GridEngine y = new GridEngine();
        y.axis(4096);
        y.axis(4096);
        y.axis(4096);
        y.axis(4096);
        Due.due("cells without end", y.grid(1), -12);
        y.axis(400);
        y.axis(250);
        Due.due("100000 cells", y.grid(1), 1);
        Due.due("cells", y.cells(1), 100000);
        Due.due("one cell more", y.grid(1), -12);
        y.axis(0);
        y.axis(4096);
        Due.due("no cells", y.grid(1), 2);
        Due.due("cells", y.cells(2), 0);
        Due.due("a view", Engine.view(y, 1, "3"), 3);
        y.crash(0);
        y.reopen();
        Due.due("cells are for life", y.grid(1), -12);
        y.axis(0);
        Due.due("numbers go on", y.grid(1), 4);
        y.axis(99);
        y.axis(0);
        Due.due("cells of a shape with 0", y.cells(y.grid(2)), 0);
    }
}
