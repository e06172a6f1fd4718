/**
 * Terms 4 and 5, promises 29 to 37: the bounds of ways, axes, sizes, pairs, products and primes, folds of none,
 * wrap-arounds, the places of what fails, and the codes in their order.
 */
final class FoldBoundsTest {
    private static final double INF = Double.POSITIVE_INFINITY;

    private FoldBoundsTest() {
    }

    public static void main(String[] args) {
        waysOfFold();
        waysOfRunning();
        waysOfGroups();
        lanesOfWays();
        axesOfFolds();
        foldsOfNone();
        foldsOfNoneWithManyCells();
        sumsWrap();
        exactSumsEnd();
        productsWrap();
        leastAndGreatest();
        pairedSums();
        countsAllAny();
        theFirstCellOfTheResultThatFails();
        runningFolds();
        failedOfRefusedFolds();
        sortedTakesOneAxis();
        searchLooksAtAllCells();
        groupsTakeTwoGrids();
        joinHasAtMost4096Pairs();
        productsAreAtMost1000000();
        productsOfMatrices();
        solveTakes1To10();
        solutionsEndAtALong();
        residuesTakeSizesAndPrimes();
        residuesWrapAround();
        longRowsInANewObject();
        shapesOfResults();
        Due.finish();
    }

    private static int grid(GridEngine x, int lane, int... sizes) {
        for (int s : sizes) {
            x.axis(s);
        }
        return x.grid(lane);
    }

    private static void waysOfFold() {
        GridEngine x = new GridEngine();
        int i = Engine.ints(x, 1, 2);
        int b = Engine.row(x, 0, 1, 0);
        int d = Engine.doubles(x, 1, 2);
        int[] taken = {i, i, i, i, i, b, b, b, d};
        for (int way = 0; way <= 8; way++) {
            Due.due("fold by " + way, x.fold(taken[way], way, 0) > 0, true);
        }
        for (int way : new int[] {-1, 9, Integer.MIN_VALUE, Integer.MAX_VALUE}) {
            for (int g : new int[] {i, b, d}) {
                Refused.due(x, "fold by " + way, () -> x.fold(g, way, 0), -14);
            }
        }
    }

    private static void waysOfRunning() {
        GridEngine x = new GridEngine();
        int i = Engine.ints(x, 1, 2);
        int b = Engine.row(x, 0, 1, 0);
        int d = Engine.doubles(x, 1, 2);
        for (int way : new int[] {0, 1, 2, 3, 4}) {
            Due.due("running by " + way, x.running(i, way, 0) > 0, true);
        }
        for (int way : new int[] {6, 7}) {
            Due.due("running by " + way, x.running(b, way, 0) > 0, true);
        }
        for (int way : new int[] {-1, 5, 8, 9, Integer.MIN_VALUE, Integer.MAX_VALUE}) {
            for (int g : new int[] {i, b, d}) {
                Refused.due(x, "running by " + way, () -> x.running(g, way, 0), -14);
            }
        }
    }

    private static void waysOfGroups() {
        GridEngine x = new GridEngine();
        int i = Engine.ints(x, 1, 2);
        int b = Engine.row(x, 0, 1, 0);
        int d = Engine.doubles(x, 1, 2);
        int[] taken = {i, i, i, i, i, b, b, b};
        for (int way = 0; way <= 7; way++) {
            Due.due("groups by " + way, x.groups(i, taken[way], way) > 0, true);
        }
        for (int way : new int[] {-1, 8, 9, Integer.MIN_VALUE, Integer.MAX_VALUE}) {
            Refused.due(x, "groups by " + way, () -> x.groups(i, d, way), -14);
        }
    }

    /** Which lanes a way takes, and which one it gives. */
    private static void lanesOfWays() {
        int[][] lanes = {
            {-1, 4, 4, 4, 4, 5, 6, 7}, {-1, 4, 4, 4, 4, 5, -1, -1}, {-1, 4, 4, 4, 4, 5, 6, 7}, {-1, 1, 2, 3, 4, 5, 6, 7}, {-1, 1, 2, 3, 4, 5, 6, 7},
            {4, -1, -1, -1, -1, -1, -1, -1}, {0, -1, -1, -1, -1, -1, -1, -1}, {0, -1, -1, -1, -1, -1, -1, -1}, {-1, -1, -1, -1, -1, -1, 6, 7}
        };
        for (int way = 0; way <= 8; way++) {
            for (int lane = 0; lane < 8; lane++) {
                GridEngine x = new GridEngine();
                int g = grid(x, lane, 2);
                int by = way;
                if (lanes[way][lane] < 0) {
                    Refused.due(x, "fold of lane " + lane + " by " + way, () -> x.fold(g, by, 0), -1);
                    Refused.due(x, "1 before 2", () -> x.fold(g, by, 1), -1);
                } else {
                    Due.due("fold of lane " + lane + " by " + way, x.lane(x.fold(g, way, 0)), lanes[way][lane]);
                }
                if (way != 5 && way != 8) {
                    int want = lanes[way][lane];
                    Due.due("running", want < 0 ? x.running(g, way, 0) : x.lane(x.running(g, way, 0)), want);
                }
                if (way != 8) {
                    int k = x.groups(g, g, way);
                    Due.due("groups", k < 0 ? k : x.lane(k + 1), lanes[way][lane]);
                }
            }
        }
    }

    private static void axesOfFolds() {
        GridEngine x = new GridEngine();
        int g = Engine.grid(x, 4, new int[] {2, 3}, 1, 2, 3, 4, 5, 6);
        Due.due("axis -1", Engine.cells(x, x.fold(g, 0, -1)), 21);
        Due.due("axis 0", Engine.cells(x, x.fold(g, 0, 0)), 5, 7, 9);
        Due.due("axis 1", Engine.cells(x, x.fold(g, 0, 1)), 6, 15);
        Refused.due(x, "axis 2", () -> x.fold(g, 0, 2), -2);
        Refused.due(x, "axis MAX", () -> x.fold(g, 0, Integer.MAX_VALUE), -2);
        Refused.due(x, "axis -2", () -> x.fold(g, 0, -2), -14);
        Refused.due(x, "axis MIN", () -> x.fold(g, 0, Integer.MIN_VALUE), -14);
        Refused.due(x, "axis -2 of a wrong lane", () -> x.fold(g, 5, -2), -14);
        Refused.due(x, "running: axis 2", () -> x.running(g, 0, 2), -2);
        Refused.due(x, "running: axis -2", () -> x.running(g, 0, -2), -14);
        int one = x.grid(4);
        Due.due("no axes, all cells", Engine.cells(x, x.fold(one, 0, -1)), 0);
        Refused.due(x, "no axes, axis 0", () -> x.fold(one, 0, 0), -2);
        Refused.due(x, "running: no axes, axis 0", () -> x.running(one, 0, 0), -2);
        int four = grid(x, 4, 1, 2, 1, 2);
        Due.due("axis 3 of four", Engine.shape(x, x.fold(four, 0, 3)), "1x2x1");
        Due.due("axis 0 of four", Engine.shape(x, x.fold(four, 0, 0)), "2x1x2");
        Refused.due(x, "axis 4 of four", () -> x.fold(four, 0, 4), -2);
    }

    private static void foldsOfNone() {
        GridEngine x = new GridEngine();
        int[] lane = {4, 5, 7, 4, 4, 0, 0, 0, 7};
        long[] want = {0, 0, Engine.bits(1.0), -4, -4, 0, 1, 0, 0};
        for (int way = 0; way <= 8; way++) {
            int by = way;
            int none = grid(x, lane[way], 0);
            int two = grid(x, lane[way], 2, 0);
            if (want[way] == -4) {
                Refused.due(x, "fold of none by " + way, () -> x.fold(none, by, 0), -4);
                Due.due("failed(0)", x.failed(0), -1);
                Refused.due(x, "all of none by " + way, () -> x.fold(none, by, -1), -4);
                Refused.due(x, "two of none by " + way, () -> x.fold(two, by, 1), -4);
                Due.due("failed(0)", x.failed(0), 0);
                Due.due("failed(1)", x.failed(1), -1);
            } else {
                Due.due("fold of none by " + way, Engine.cells(x, x.fold(none, way, 0)), want[way]);
                Due.due("all of none by " + way, Engine.cells(x, x.fold(none, way, -1)), want[way]);
                Due.due("two of none by " + way, Engine.cells(x, x.fold(two, way, 1)), want[way], want[way]);
            }
            Due.due("no cells of none", Engine.shape(x, x.fold(two, way, 0)), "0");
        }
        int i = grid(x, 4, 0);
        int f = grid(x, 6, 0);
        Due.due("product of no ints", x.cell(x.fold(i, 2, 0), 0), 1);
        Due.due("product of no floats", x.cell(x.fold(f, 2, 0), 0), Engine.bits(1f));
        Due.due("running of none", Engine.shape(x, x.running(i, 3, 0)), "0");
    }

    private static void foldsOfNoneWithManyCells() {
        GridEngine x = new GridEngine();
        int g = grid(x, 4, 0, 400, 251);
        int fine = grid(x, 4, 0, 4096, 1);
        Refused.due(x, "100400 sums of none", () -> x.fold(g, 0, 0), -12);
        Due.due("failed(0)", x.failed(0), -1);
        Refused.due(x, "4 comes before too many cells", () -> x.fold(g, 3, 0), -4);
        Due.due("failed(0)", x.failed(0), 0);
        Due.due("failed(1)", x.failed(1), 0);
        Due.due("4096 sums of none", x.cells(x.fold(fine, 0, 0)), 4096);
        Due.due("no cells", x.cells(x.fold(g, 3, 1)), 0);
    }

    private static void sumsWrap() {
        GridEngine x = new GridEngine();
        Due.due("ints", x.cell(x.fold(Engine.ints(x, Integer.MAX_VALUE, 1), 0, 0), 0), Integer.MIN_VALUE);
        Due.due("bytes as ints", x.cell(x.fold(Engine.row(x, 1, 127, 127, 127), 0, 0), 0), 381);
        Due.due("chars as ints", x.cell(x.fold(Engine.row(x, 3, 65535, 65535), 0, 0), 0), 131070);
        Due.due("longs", x.cell(x.fold(Engine.row(x, 5, Long.MIN_VALUE, -1), 0, 0), 0), Long.MAX_VALUE);
        Due.due("from the first to the last", x.cell(x.fold(Engine.doubles(x, 1e17, 3, -1e17), 0, 0), 0), Engine.bits(1e17 + 3 - 1e17));
        Due.due("floats as floats", x.cell(x.fold(Engine.floats(x, 16777216f, 1f, 1f), 0, 0), 0), Engine.bits(16777216f));
        Due.due("from 0", x.cell(x.fold(Engine.doubles(x, -0.0), 0, 0), 0), 0);
        Due.due("to infinity", x.cell(x.fold(Engine.doubles(x, Double.MAX_VALUE, Double.MAX_VALUE), 0, 0), 0), Engine.bits(INF));
        int bad = Engine.doubles(x, INF, 1, -INF);
        Refused.due(x, "no number", () -> x.fold(bad, 0, 0), -8);
    }

    private static void exactSumsEnd() {
        GridEngine x = new GridEngine();
        Due.due("the greatest int", x.cell(x.fold(Engine.ints(x, Integer.MAX_VALUE, 0), 1, 0), 0), Integer.MAX_VALUE);
        Due.due("the least int", x.cell(x.fold(Engine.ints(x, -1, Integer.MIN_VALUE + 1), 1, 0), 0), Integer.MIN_VALUE);
        int up = Engine.ints(x, Integer.MAX_VALUE, 1, -1);
        int down = Engine.ints(x, Integer.MIN_VALUE, -1, 1);
        Refused.due(x, "one more, though it comes back", () -> x.fold(up, 1, 0), -8);
        Refused.due(x, "one less, though it comes back", () -> x.fold(down, 1, 0), -8);
        Refused.due(x, "running", () -> x.running(up, 1, 0), -8);
        Due.due("the cell with which it does not fit", x.failed(0), 1);
        Due.due("the greatest long", x.cell(x.fold(Engine.row(x, 5, Long.MAX_VALUE, 0), 1, 0), 0), Long.MAX_VALUE);
        int l = Engine.row(x, 5, Long.MAX_VALUE, 1);
        Refused.due(x, "one more than the greatest long", () -> x.fold(l, 1, 0), -8);
        int shorts = Engine.row(x, 2, 32767, 32767);
        Due.due("shorts as ints", x.cell(x.fold(shorts, 1, 0), 0), 65534);
    }

    private static void productsWrap() {
        GridEngine x = new GridEngine();
        Due.due("ints", x.cell(x.fold(Engine.ints(x, 65536, 65536), 2, 0), 0), 0);
        Due.due("bytes as ints", x.cell(x.fold(Engine.row(x, 1, 100, 100), 2, 0), 0), 10000);
        Due.due("longs", x.cell(x.fold(Engine.row(x, 5, Long.MAX_VALUE, 2), 2, 0), 0), -2);
        Due.due("floats", x.cell(x.fold(Engine.floats(x, 3e38f, 10f), 2, 0), 0), Engine.bits(Float.POSITIVE_INFINITY));
        Due.due("minus zero", x.cell(x.fold(Engine.doubles(x, -0.0), 2, 0), 0), Engine.bits(-0.0));
        int bad = Engine.doubles(x, INF, 0);
        Refused.due(x, "no number", () -> x.fold(bad, 2, 0), -8);
    }

    private static void leastAndGreatest() {
        GridEngine x = new GridEngine();
        int zeros = Engine.doubles(x, 0.0, -0.0, 0.0);
        Due.due("least", x.cell(x.fold(zeros, 3, 0), 0), Engine.bits(-0.0));
        Due.due("greatest", x.cell(x.fold(zeros, 4, 0), 0), 0);
        int floats = Engine.floats(x, -0f, 0f);
        Due.due("least float", x.cell(x.fold(floats, 3, 0), 0), Engine.bits(-0f));
        Due.due("greatest float", x.cell(x.fold(floats, 4, 0), 0), 0);
        int below = Engine.floats(x, -2f, -1f, Float.NEGATIVE_INFINITY);
        Due.due("least below 0", x.cell(x.fold(below, 3, 0), 0), Engine.bits(Float.NEGATIVE_INFINITY));
        Due.due("greatest below 0", x.cell(x.fold(below, 4, 0), 0), Engine.bits(-1f));
        int bytes = Engine.row(x, 1, 5, -128, 127);
        Due.due("least byte", x.cell(x.fold(bytes, 3, 0), 0), -128);
        Due.due("greatest byte", x.cell(x.fold(bytes, 4, 0), 0), 127);
        int longs = Engine.row(x, 5, Long.MAX_VALUE, Long.MIN_VALUE);
        Due.due("least long", x.cell(x.fold(longs, 3, -1), 0), Long.MIN_VALUE);
        Due.due("of one", x.cell(x.fold(Engine.row(x, 3, 65535), 3, 0), 0), 65535);
    }

    private static void pairedSums() {
        GridEngine x = new GridEngine();
        Due.due("of none", x.cell(x.fold(grid(x, 7, 0), 8, 0), 0), 0);
        Due.due("of one, itself", x.cell(x.fold(Engine.doubles(x, -0.0), 8, 0), 0), Engine.bits(-0.0));
        Due.due("of two", x.cell(x.fold(Engine.doubles(x, -0.0, -0.0), 8, 0), 0), Engine.bits(-0.0));
        double[] v = {1e16, 1, 1, -1e16, 3};
        double want = (v[0] + v[1]) + (v[2] + (v[3] + v[4]));
        Due.due("of five: two and three", x.cell(x.fold(Engine.doubles(x, v), 8, 0), 0), Engine.bits(want));
        Due.due("of three: one and two", x.cell(x.fold(Engine.doubles(x, 1, 1e16, -1e16), 8, 0), 0), Engine.bits(1 + (1e16 + -1e16)));
        Due.due("of floats", x.cell(x.fold(Engine.floats(x, 16777216f, 1f, 1f), 8, 0), 0), Engine.bits(16777216f + (1f + 1f)));
        int bad = Engine.doubles(x, INF, 1, 1, -INF);
        Refused.due(x, "no number", () -> x.fold(bad, 8, 0), -8);
        int whole = Engine.ints(x, 1);
        Refused.due(x, "of whole numbers", () -> x.fold(whole, 8, 0), -1);
    }

    private static void countsAllAny() {
        GridEngine x = new GridEngine();
        int b = Engine.grid(x, 0, new int[] {2, 3}, 1, 1, 1, 0, 0, 1);
        Due.due("count", Engine.cells(x, x.fold(b, 5, 1)), 3, 1);
        Due.due("all", Engine.cells(x, x.fold(b, 6, 1)), 1, 0);
        Due.due("any", Engine.cells(x, x.fold(b, 7, 0)), 1, 1, 1);
        int one = x.grid(0);
        x.axis(250);
        x.axis(400);
        x.put(one, 0, 1);
        int wide = x.spread(one);
        Due.due("100000 of true", x.cell(x.fold(wide, 5, -1), 0), 100000);
        Due.due("all of them", x.cell(x.fold(wide, 6, -1), 0), 1);
    }

    private static void theFirstCellOfTheResultThatFails() {
        GridEngine x = new GridEngine();
        int g = Engine.grid(x, 4, new int[] {2, 2, 2}, 0, Integer.MAX_VALUE, 0, 0, Integer.MAX_VALUE, 1, 1, 0);
        Refused.due(x, "along axis 0", () -> x.fold(g, 1, 0), -8);
        Due.due("failed(0)", x.failed(0), 0);
        Due.due("failed(1)", x.failed(1), 1);
        Due.due("failed(2)", x.failed(2), -1);
        Refused.due(x, "along axis 1", () -> x.fold(g, 1, 1), -8);
        Due.due("failed(0)", x.failed(0), 1);
        Due.due("failed(1)", x.failed(1), 0);
        Refused.due(x, "along axis 2", () -> x.fold(g, 1, 2), -8);
        Due.due("failed(0)", x.failed(0), 1);
        Due.due("failed(1)", x.failed(1), 0);
        Refused.due(x, "all", () -> x.fold(g, 1, -1), -8);
        Due.due("no axes in the result", x.failed(0), -1);
        Refused.due(x, "running, all", () -> x.running(g, 1, -1), -8);
        Due.due("failed(0)", x.failed(0), 1);
        Due.due("failed(1)", x.failed(1), 0);
        Due.due("failed(2)", x.failed(2), 0);
        Refused.due(x, "running along axis 0", () -> x.running(g, 1, 0), -8);
        Due.due("failed(0)", x.failed(0), 1);
        Due.due("failed(1)", x.failed(1), 0);
        Due.due("failed(2)", x.failed(2), 1);
    }

    private static void runningFolds() {
        GridEngine x = new GridEngine();
        int g = Engine.grid(x, 4, new int[] {2, 2}, 3, 1, 2, 5);
        Due.due("sums along 0", Engine.cells(x, x.running(g, 0, 0)), 3, 1, 5, 6);
        Due.due("sums along 1", Engine.cells(x, x.running(g, 0, 1)), 3, 4, 2, 7);
        Due.due("sums of all", Engine.cells(x, x.running(g, 0, -1)), 3, 4, 6, 11);
        Due.due("shape", Engine.shape(x, x.running(g, 0, -1)), "2x2");
        Due.due("least of all", Engine.cells(x, x.running(g, 3, -1)), 3, 1, 1, 1);
        Due.due("greatest along 1", Engine.cells(x, x.running(g, 4, 1)), 3, 3, 2, 5);
        Due.due("products", Engine.cells(x, x.running(g, 2, -1)), 3, 3, 6, 30);
        int wide = Engine.ints(x, Integer.MAX_VALUE, 1, 1);
        Due.due("sums wrap", Engine.cells(x, x.running(wide, 0, 0)), Integer.MAX_VALUE, Integer.MIN_VALUE, Integer.MIN_VALUE + 1);
        int b = Engine.row(x, 0, 1, 0, 1);
        Due.due("all so far", Engine.cells(x, x.running(b, 6, 0)), 1, 0, 0);
        Due.due("any so far", Engine.cells(x, x.running(b, 7, 0)), 1, 1, 1);
        Due.due("minus zero, from 0", Engine.cells(x, x.running(Engine.doubles(x, -0.0), 0, 0)), 0);
        int one = x.grid(4);
        Due.due("without axes", Engine.cells(x, x.running(one, 0, -1)), 0);
    }

    private static void failedOfRefusedFolds() {
        GridEngine x = new GridEngine();
        int bad = Engine.ints(x, Integer.MAX_VALUE, 1);
        int square = Engine.grid(x, 4, new int[] {1, 1}, 1);
        Runnable[] calls = {
            () -> x.fold(bad, 0, 9), () -> x.fold(99, 0, 0), () -> x.fold(bad, 0, 0), () -> x.running(bad, 0, 9), () -> x.running(bad, 0, 0),
            () -> x.cast(bad, 4, 0), () -> x.cast(bad, 0, 0), () -> x.product(bad, bad), () -> x.product(square, square), () -> x.solve(bad, bad),
            () -> x.solve(square, Engine.ints(x, 1)), () -> Engine.formula(x, "1"), () -> Engine.formula(x, "$"), () -> x.fold(bad, 77, 0)
        };
        for (int n = 0; n < calls.length; n++) {
            x.running(bad, 1, 0);
            Due.due("failed(0)", x.failed(0), 1);
            calls[n].run();
            Due.due("failed(0) behind call " + n, x.failed(0), -1);
        }
        Runnable[] others = {
            () -> x.groups(bad, bad, 1), () -> x.groups(bad, bad, 99), () -> x.sorted(bad, true), () -> x.search(bad, 0), () -> x.join(bad, bad),
            () -> x.residues(bad, 3, false), () -> x.copy(bad, bad), () -> x.turned(bad, 0, 0), () -> Engine.view(x, bad, "$"), () -> x.bytes(bad)
        };
        x.running(bad, 1, 0);
        for (int n = 0; n < others.length; n++) {
            others[n].run();
            Due.due("failed(0) behind other call " + n, x.failed(0), 1);
        }
    }

    private static void sortedTakesOneAxis() {
        GridEngine x = new GridEngine();
        Due.due("of none", Engine.shape(x, x.sorted(grid(x, 4, 0), true)), "0");
        Due.due("of one", Engine.cells(x, x.sorted(grid(x, 0, 1), true)), 0);
        int equal = grid(x, 4, 4096);
        int s = x.sorted(equal, true);
        Due.due("falling, stable", x.cell(s, 0) * 10000 + x.cell(s, 4095), 4095);
        s = x.sorted(equal, false);
        Due.due("rising, stable", x.cell(s, 0) * 10000 + x.cell(s, 4095), 4095);
        int none = x.grid(4);
        int two = grid(x, 4, 1, 1);
        for (boolean falling : new boolean[] {false, true}) {
            Refused.due(x, "no axes", () -> x.sorted(none, falling), -1);
            Refused.due(x, "two axes", () -> x.sorted(two, falling), -1);
            Refused.due(x, "no grid", () -> x.sorted(999, falling), -14);
        }
        int d = Engine.doubles(x, 0.0, -0.0, 0.0, -0.0);
        Due.due("zeros rising", Engine.cells(x, x.sorted(d, false)), 1, 3, 0, 2);
        Due.due("zeros falling", Engine.cells(x, x.sorted(d, true)), 0, 2, 1, 3);
    }

    private static void searchLooksAtAllCells() {
        GridEngine x = new GridEngine();
        int i = Engine.ints(x, 5, 1, 5, Integer.MIN_VALUE, Integer.MAX_VALUE);
        Due.due("before the least", x.search(i, Integer.MIN_VALUE), 0);
        Due.due("before the greatest", x.search(i, Integer.MAX_VALUE), 4);
        Due.due("before 5", x.search(i, 5), 2);
        Due.due("of none", x.search(grid(x, 4, 0), 5), 0);
        Refused.due(x, "no int", () -> x.search(i, 2147483648L), -1);
        int none = x.grid(4);
        int two = grid(x, 4, 1, 1);
        Refused.due(x, "no axes", () -> x.search(none, 0), -1);
        Refused.due(x, "two axes", () -> x.search(two, 0), -1);
        Refused.due(x, "no grid", () -> x.search(99, 0), -14);
    }

    private static void groupsTakeTwoGrids() {
        GridEngine x = new GridEngine();
        int none = grid(x, 4, 0);
        int k = x.groups(none, none, 3);
        Due.due("of none", Engine.shape(x, k) + " " + Engine.shape(x, k + 1), "0 0");
        int a = Engine.ints(x, 1, 2, 3);
        int b = Engine.ints(x, 1, 2);
        int zero = x.grid(4);
        int two = grid(x, 4, 3, 1);
        Refused.due(x, "unlike sizes", () -> x.groups(a, b, 0), -3);
        Refused.due(x, "no axes", () -> x.groups(zero, zero, 0), -1);
        Refused.due(x, "two axes", () -> x.groups(a, two, 0), -1);
        Refused.due(x, "two axes", () -> x.groups(two, a, 0), -1);
        Refused.due(x, "lane before sizes", () -> x.groups(a, b, 5), -1);
        Refused.due(x, "no keys", () -> x.groups(999, a, 0), -14);
        Refused.due(x, "no values", () -> x.groups(a, 999, 0), -14);
        int six = Engine.ints(x, 5, 0, 3, 0, 5, 0);
        int everyOther = Engine.view(x, six, "::2");
        k = x.groups(everyOther, a, 0);
        Due.due("keys of a view", Engine.cells(x, k), 3, 5);
        Due.due("values of a grid", Engine.cells(x, k + 1), 2, 4);
        k = x.groups(a, everyOther, 0);
        Due.due("keys of a grid", Engine.cells(x, k), 1, 2, 3);
        Due.due("values of a view", Engine.cells(x, k + 1), 5, 3, 5);
        k = x.groups(Engine.view(x, six, "::-2"), Engine.view(x, a, "::-1"), 2);
        Due.due("keys of a view, turned over", Engine.cells(x, k), 0);
        Due.due("product", Engine.cells(x, k + 1), 6);
        int bad = Engine.ints(x, Integer.MAX_VALUE, 1, 0);
        int same = Engine.ints(x, 7, 7, 7);
        Refused.due(x, "fails", () -> x.groups(same, bad, 1), -8);
        Due.due("each by itself fits", x.groups(a, bad, 1) > 0, true);
        int keys = Engine.doubles(x, 0.0, -0.0, 0.0);
        k = x.groups(keys, a, 0);
        Due.due("zeros are unlike", Engine.cells(x, k), Engine.bits(-0.0), 0);
        Due.due("their sums", Engine.cells(x, k + 1), 2, 4);
        while (x.lane(399) < 0) {
            x.turned(a, 0, 0);
        }
        Refused.due(x, "room for one grid", () -> x.groups(a, a, 0), -12);
        Refused.due(x, "8 before 12", () -> x.groups(same, bad, 1), -8);
        GridEngine z = new GridEngine();
        int row = Engine.ints(z, 1, 2, 3);
        while (z.lane(398) < 0) {
            z.turned(row, 0, 0);
        }
        Due.due("room for two grids", z.groups(row, row, 0), 399);
        Due.due("both are there", z.cells(399) * 10 + z.cells(400), 33);
        GridEngine y = new GridEngine();
        int many = Engine.ints(y, 1, 2, 3);
        grid(y, 1, 3999, 25);
        // 99975 + 3 cells are taken: 22 are left.
        grid(y, 1, 17);
        Refused.due(y, "five cells are left, six are needed", () -> y.groups(many, many, 0), -12);
        Due.due("four are needed", y.groups(Engine.view(y, many, ":2"), Engine.view(y, many, ":2"), 0) > 0, true);
        GridEngine w = new GridEngine();
        int keys2 = Engine.ints(w, 1, 2, 3);
        grid(w, 1, 3999, 25);
        grid(w, 1, 16);
        Due.due("six cells are left, six are needed", w.groups(keys2, keys2, 0) > 0, true);
        Due.due("none is left", w.grid(0), -12);
    }

    private static void joinHasAtMost4096Pairs() {
        GridEngine x = new GridEngine();
        int a = grid(x, 4, 64);
        int b = grid(x, 4, 65);
        int one = grid(x, 4, 1);
        int most = grid(x, 4, 4096);
        Due.due("64 * 64 pairs", Engine.shape(x, x.join(a, a)), "4096x2");
        Refused.due(x, "64 * 65 pairs", () -> x.join(a, b), -12);
        int c = grid(x, 4, 17);
        int d = grid(x, 4, 241);
        Refused.due(x, "4097 pairs", () -> x.join(c, d), -12);
        Due.due("4080 pairs", Engine.shape(x, x.join(c, Engine.view(x, d, ":240"))), "4080x2");
        Due.due("1 * 4096 pairs", Engine.shape(x, x.join(one, most)), "4096x2");
        Due.due("4096 * 1 pairs", Engine.shape(x, x.join(most, one)), "4096x2");
        int two = grid(x, 4, 2);
        Refused.due(x, "2 * 4096 pairs", () -> x.join(two, most), -12);
        Refused.due(x, "4096 * 4096 pairs", () -> x.join(most, most), -12);
        Due.due("none", Engine.shape(x, x.join(one, grid(x, 4, 0))), "0x2");
        int bytes = grid(x, 1, 1);
        int none = x.grid(4);
        int square = grid(x, 4, 1, 1);
        Refused.due(x, "unlike lanes", () -> x.join(one, bytes), -1);
        Refused.due(x, "no axes", () -> x.join(none, none), -1);
        Refused.due(x, "two axes", () -> x.join(square, one), -1);
        Refused.due(x, "two axes", () -> x.join(one, square), -1);
        Refused.due(x, "no grid", () -> x.join(999, one), -14);
        Refused.due(x, "no grid", () -> x.join(one, 999), -14);
    }

    private static int spread(GridEngine x, int g, int... sizes) {
        for (int s : sizes) {
            x.axis(s);
        }
        return x.spread(g);
    }

    private static void productsAreAtMost1000000() {
        GridEngine x = new GridEngine();
        int a = grid(x, 1, 100, 100);
        int b = grid(x, 1, 100, 101);
        Due.due("1000000 products", x.cells(x.product(a, a)), 10000);
        Refused.due(x, "1010000 products", () -> x.product(a, b), -12);
        int[][] shapes = {{500, 100, 20}, {20, 100, 500}, {100, 500, 20}, {20, 500, 100}, {10, 4000, 25}, {25, 4000, 10}};
        int[][] beyond = {{501, 100, 20}, {20, 100, 501}, {100, 501, 20}, {20, 501, 100}, {11, 4000, 25}, {25, 4000, 11}};
        for (int n = 0; n < shapes.length; n++) {
            GridEngine y = new GridEngine();
            int one = y.grid(1);
            y.put(one, 1, 1);
            int p = y.product(spread(y, one, shapes[n][0], shapes[n][1]), spread(y, one, shapes[n][1], shapes[n][2]));
            Due.due("cells", y.cells(p), shapes[n][0] * shapes[n][2]);
            Due.due("the last one", y.cell(p, y.cells(p) - 1), shapes[n][1]);
            int left = spread(y, one, beyond[n][0], beyond[n][1]);
            int right = spread(y, one, beyond[n][1], beyond[n][2]);
            Refused.due(y, "too many products", () -> y.product(left, right), -12);
        }
        int c = grid(x, 7, 1, 1);
        x.put(c, 7, 0);
        int wide = x.grid(7);
        x.axis(1000);
        x.axis(100);
        int long1 = x.spread(wide);
        int back = x.turned(long1, 0, 1);
        Refused.due(x, "1000 * 100 * 1000", () -> x.product(long1, back), -12);
        x.axis(1000);
        x.axis(1);
        int column = x.spread(wide);
        int row = x.turned(column, 0, 1);
        Refused.due(x, "1000 * 1 * 1000 products, but too many cells", () -> x.product(column, row), -12);
        int inf = x.grid(7);
        x.put(inf, 7, Engine.bits(INF));
        x.axis(400);
        x.axis(1);
        int infColumn = x.spread(inf);
        x.axis(1);
        x.axis(250);
        int fine = x.spread(wide);
        x.axis(1);
        x.axis(251);
        int tooWide = x.spread(wide);
        Refused.due(x, "100000 cells are worked out, and fail", () -> x.product(infColumn, fine), -8);
        Due.due("failed(0)", x.failed(0), 0);
        Refused.due(x, "100400 cells are not", () -> x.product(infColumn, tooWide), -12);
        Due.due("failed(0)", x.failed(0), -1);
        Due.due("1 * 1000 * 1", x.cells(x.product(row, column)), 1);
        int none = grid(x, 4, 4096, 0);
        int turned = x.turned(none, 0, 1);
        Refused.due(x, "no products, but too many cells", () -> x.product(none, turned), -12);
        Due.due("no cells", Engine.shape(x, x.product(turned, none)), "0x0");
    }

    private static void productsOfMatrices() {
        GridEngine x = new GridEngine();
        int a = grid(x, 4, 2, 3);
        int row = grid(x, 4, 3);
        int bool = grid(x, 0, 3, 2);
        Refused.due(x, "unlike sizes", () -> x.product(a, a), -3);
        Refused.due(x, "one axis", () -> x.product(a, row), -1);
        Refused.due(x, "one axis", () -> x.product(row, a), -1);
        Refused.due(x, "booleans", () -> x.product(a, bool), -1);
        Refused.due(x, "booleans", () -> x.product(bool, a), -1);
        Refused.due(x, "no grid", () -> x.product(a, 99), -14);
        Refused.due(x, "no grid", () -> x.product(99, a), -14);
        int i = Engine.grid(x, 4, new int[] {1, 2}, Integer.MAX_VALUE, 1);
        int j = Engine.grid(x, 4, new int[] {2, 1}, 1, 1);
        Due.due("wraps", x.cell(x.product(i, j), 0), Integer.MIN_VALUE);
        int l = Engine.grid(x, 5, new int[] {2, 1}, 1, 1);
        Due.due("the wider lane", x.cell(x.product(i, l), 0), 2147483648L);
        int z = Engine.grid(x, 7, new int[] {1, 1}, Engine.bits(-0.0));
        int one = Engine.grid(x, 7, new int[] {1, 1}, Engine.bits(1.0));
        Due.due("from 0", x.cell(x.product(z, one), 0), 0);
        int inf = Engine.grid(x, 7, new int[] {2, 1}, Engine.bits(1.0), Engine.bits(INF));
        int zeros = Engine.grid(x, 7, new int[] {1, 3}, Engine.bits(1.0), Engine.bits(2.0), 0);
        Refused.due(x, "no number", () -> x.product(inf, zeros), -8);
        Due.due("failed(0)", x.failed(0), 1);
        Due.due("failed(1)", x.failed(1), 2);
        Due.due("failed(2)", x.failed(2), -1);
    }

    private static void solveTakes1To10() {
        GridEngine x = new GridEngine();
        for (int n : new int[] {1, 10}) {
            int a = grid(x, 4, n, n);
            for (int k = 0; k < n; k++) {
                x.at(k);
                x.at(k);
                x.put(a, 4, 2);
            }
            int b = grid(x, 4, n);
            x.at(n - 1);
            x.put(b, 4, 3);
            int s = x.solve(a, b);
            Due.due("numerator", x.cell(s, n - 1), 3);
            Due.due("denominator", x.cell(s + 1, n - 1), 2);
            Due.due("of 0", x.cell(s + 1, 0), n == 1 ? 2 : 1);
        }
        int none = grid(x, 4, 0, 0);
        int noRow = grid(x, 4, 0);
        int eleven = grid(x, 4, 11, 11);
        int elevenRow = grid(x, 4, 11);
        Refused.due(x, "n 0", () -> x.solve(none, noRow), -1);
        Refused.due(x, "n 11", () -> x.solve(eleven, elevenRow), -1);
        int two = Engine.grid(x, 4, new int[] {2, 2}, 1, 0, 0, 1);
        int three = grid(x, 4, 2, 3);
        int row = Engine.ints(x, 1, 2);
        int rowOf3 = Engine.ints(x, 1, 2, 3);
        Refused.due(x, "not square", () -> x.solve(three, row), -3);
        Refused.due(x, "unlike sizes", () -> x.solve(two, rowOf3), -3);
        Refused.due(x, "one axis", () -> x.solve(row, row), -1);
        Refused.due(x, "two axes", () -> x.solve(two, two), -1);
        for (int lane = 5; lane < 8; lane++) {
            int above = grid(x, lane, 2, 2);
            int aboveRow = grid(x, lane, 2);
            Refused.due(x, "lane " + lane, () -> x.solve(above, row), -1);
            Refused.due(x, "lane " + lane, () -> x.solve(two, aboveRow), -1);
        }
        for (int lane = 1; lane <= 4; lane++) {
            int g = Engine.grid(x, lane, new int[] {1, 1}, 1);
            Due.due("lane " + lane, x.lane(x.solve(g, Engine.row(x, lane, 1))), 5);
        }
        int singular = Engine.grid(x, 4, new int[] {2, 2}, 1, 1, 2, 2);
        Refused.due(x, "not just one", () -> x.solve(singular, row), -6);
        Due.due("failed(0)", x.failed(0), -1);
        int zero = Engine.ints(x, 0, 0);
        Refused.due(x, "not just one, of zeros", () -> x.solve(singular, zero), -6);
        Refused.due(x, "no grid", () -> x.solve(999, row), -14);
        Refused.due(x, "no grid", () -> x.solve(two, 999), -14);
    }

    private static void solutionsEndAtALong() {
        GridEngine x = new GridEngine();
        // x0 = b, x1 = 2^31 x0, x2 = 2^31 x1, x3 = 2 x2 - c.
        long[] cells = {1, 0, 0, 0, Integer.MIN_VALUE, -1, 0, 0, 0, Integer.MIN_VALUE, -1, 0, 0, 0, -2, 1};
        int a = Engine.grid(x, 4, new int[] {4, 4}, cells);
        int up = Engine.ints(x, 1, 0, 0, -1);
        int s = x.solve(a, up);
        Due.due("the greatest long", x.cell(s, 3), Long.MAX_VALUE);
        int beyond = Engine.ints(x, 1, 0, 0, 0);
        Refused.due(x, "2^63", () -> x.solve(a, beyond), -8);
        Due.due("failed(0)", x.failed(0), 3);
        Due.due("failed(1)", x.failed(1), -1);
        int down = Engine.ints(x, -1, 0, 0, 0);
        s = x.solve(a, down);
        Due.due("the least long", x.cell(s, 3), Long.MIN_VALUE);
        Due.due("its denominator", x.cell(s + 1, 3), 1);
        int below = Engine.ints(x, -1, 0, 0, -1);
        Refused.due(x, "-2^63 - 1", () -> x.solve(a, below), -8);
        // x0 = 1/2^31, x1 = x0/2^31, x2 = x1/2.
        int d = Engine.grid(x, 4, new int[] {3, 3}, Integer.MIN_VALUE, 0, 0, 1, Integer.MIN_VALUE, 0, 0, 1, -2);
        int one = Engine.ints(x, 1, 0, 0);
        Refused.due(x, "a denominator of 2^63", () -> x.solve(d, one), -8);
        Due.due("failed(0)", x.failed(0), 2);
        int e = Engine.grid(x, 4, new int[] {2, 2}, Integer.MIN_VALUE, 0, 1, Integer.MIN_VALUE);
        s = x.solve(e, Engine.ints(x, 1, 0));
        Due.due("a denominator of 2^62", x.cell(s + 1, 1), 1L << 62);
        Due.due("its numerator", x.cell(s, 1), -1);
        // x3 = 4 x2 and more: beyond 64 digits.
        for (int times : new int[] {-4, -8, -6, -5, -1073741824}) {
            long[] more = cells.clone();
            more[14] = times;
            int m = Engine.grid(x, 4, new int[] {4, 4}, more);
            int plus = Engine.ints(x, 1, 0, 0, 0);
            int minus = Engine.ints(x, -1, 0, 0, 0);
            Refused.due(x, "times " + times, () -> x.solve(m, plus), -8);
            Due.due("failed(0)", x.failed(0), 3);
            Refused.due(x, "times " + times, () -> x.solve(m, minus), -8);
        }
        int f = Engine.grid(x, 4, new int[] {3, 3}, Integer.MIN_VALUE, 0, 0, 1, Integer.MIN_VALUE, 0, 0, 1, -4);
        Refused.due(x, "a denominator of 2^64", () -> x.solve(f, one), -8);
        GridEngine y = new GridEngine();
        int pair = Engine.grid(y, 4, new int[] {1, 1}, 2);
        int single = Engine.ints(y, 1);
        while (y.lane(398) < 0) {
            y.turned(pair, 0, 1);
        }
        Due.due("room for two grids", y.solve(pair, single), 399);
        Due.due("numerator and denominator", y.cell(399, 0) * 10 + y.cell(400, 0), 12);
        GridEngine z = new GridEngine();
        int three = Engine.grid(z, 4, new int[] {3, 3}, 1, 0, 0, 0, 1, 0, 0, 0, 1);
        int row = Engine.ints(z, 1, 2, 3);
        grid(z, 1, 3999, 25);
        // 99975 + 12 cells are taken: 13 are left.
        grid(z, 1, 8);
        Refused.due(z, "five cells are left, six are needed", () -> z.solve(three, row), -12);
        GridEngine v = new GridEngine();
        int three2 = Engine.grid(v, 4, new int[] {3, 3}, 1, 0, 0, 0, 1, 0, 0, 0, 1);
        int row2 = Engine.ints(v, 1, 2, 3);
        grid(v, 1, 3999, 25);
        grid(v, 1, 7);
        Due.due("six cells are left", v.solve(three2, row2) > 0, true);
        while (x.lane(399) < 0) {
            x.turned(a, 0, 1);
        }
        Refused.due(x, "8 before 12", () -> x.solve(d, one), -8);
        Refused.due(x, "room for one grid", () -> x.solve(a, up), -12);
        Due.due("failed(0)", x.failed(0), -1);
    }

    private static void residuesTakeSizesAndPrimes() {
        GridEngine x = new GridEngine();
        for (int n = 1; n <= 1024; n *= 2) {
            Due.due("size " + n, x.cells(x.residues(grid(x, 4, n), 12289, false)), n);
        }
        for (int n : new int[] {0, 3, 5, 6, 1023, 1025, 2048, 4096}) {
            int g = grid(x, 4, n);
            Refused.due(x, "size " + n, () -> x.residues(g, 12289, false), -1);
        }
        int one = Engine.ints(x, 1);
        int two = Engine.ints(x, 1, 2);
        int four = Engine.ints(x, 1, 2, 3, 4);
        for (int p : new int[] {3, 5, 7, 31607, 999999937, 1000000007}) {
            Due.due("p " + p, x.residues(one, p, false) > 0, true);
            Due.due("p " + p, x.residues(two, p, true) > 0, true);
        }
        for (int p : new int[] {Integer.MIN_VALUE, -3, -1, 0, 1, 2, 4, 9, 15, 1000000005, 1000000006, 1000000008, 1000000009, 999002449, Integer.MAX_VALUE}) {
            Refused.due(x, "p " + p, () -> x.residues(one, p, false), -1);
        }
        Due.due("4 divides 5 - 1", x.residues(four, 5, false) > 0, true);
        Refused.due(x, "4 does not divide 7 - 1", () -> x.residues(four, 7, false), -1);
        Refused.due(x, "4 does not divide 1000000007 - 1", () -> x.residues(four, 1000000007, true), -1);
        int[] wrong = {grid(x, 6, 1), grid(x, 7, 1), x.grid(4), grid(x, 4, 1, 1)};
        for (int g : wrong) {
            Refused.due(x, "lane or axes", () -> x.residues(g, 5, false), -1);
        }
        for (int lane = 1; lane <= 5; lane++) {
            Due.due("lane " + lane, x.lane(x.residues(grid(x, lane, 2), 5, false)), 5);
        }
        Refused.due(x, "no grid", () -> x.residues(999, 5, false), -14);
    }

    private interface OnOne {
        int made(GridEngine x, int g);
    }

    /** The first call of a new object that works through many cells. */
    private static void longRowsInANewObject() {
        OnOne[] calls = {
            (x, g) -> x.running(g, 0, 0), (x, g) -> x.sorted(g, true), (x, g) -> x.groups(g, g, 0), (x, g) -> x.cast(g, 7, 0), (x, g) -> x.join(g, g),
            (x, g) -> x.fold(g, 0, 0), (x, g) -> sized(x, g), (x, g) -> x.fold(x.turned(Engine.view(x, g, "*"), 0, 1), 0, 1), (x, g) -> x.copy(g, g),
            (x, g) -> x.shares(g, g), (x, g) -> x.search(g, 0), (x, g) -> x.bytes(g), (x, g) -> Engine.keep(x, g, "a"), (x, g) -> formula(x, g, "a + 1"),
            (x, g) -> x.running(g, 3, -1), (x, g) -> x.fold(g, 4, -1), (x, g) -> x.product(Engine.view(x, g, ":,*"), grid(x, 4, 1, 1)),
            (x, g) -> x.product(grid(x, 4, 1, 1), Engine.view(x, g, "*,:"))
        };
        int[] sizes = {255, 256, 257, 300, 511, 512, 513, 1025, 4096};
        for (int k = 0; k < calls.length; k++) {
            for (int size : sizes) {
                GridEngine x = new GridEngine();
                int g = grid(x, 4, size);
                boolean tooMany = k == 4 && size > 64;
                Due.due("call " + k + " of " + size + " cells", calls[k].made(x, g) >= 0, !tooMany);
            }
        }
        for (int size : sizes) {
            GridEngine y = new GridEngine();
            int unlike = formula(y, grid(y, 4, size), "a + i");
            int keys = y.groups(unlike, unlike, 0);
            Due.due(size + " unlike keys", y.cells(keys), size);
            Due.due("the last one's sum", y.cell(keys + 1, size - 1), size - 1);
        }
        GridEngine x = new GridEngine();
        Due.due("1024 residues", x.cells(x.residues(grid(x, 4, 1024), 12289, false)), 1024);
    }

    private static int sized(GridEngine x, int g) {
        x.axis(x.cells(g));
        x.axis(1);
        return x.shaped(g);
    }

    private static int formula(GridEngine x, int g, String text) {
        x.bind(0, g);
        return Engine.formula(x, text);
    }

    /** Whatever was made before, a result has its own shape. */
    private static void shapesOfResults() {
        GridEngine x = new GridEngine();
        int a = Engine.grid(x, 4, new int[] {2, 2}, 2, 0, 0, 2);
        int b = Engine.ints(x, 1, 2);
        int other = grid(x, 4, 1, 2, 3, 4);
        int s = x.solve(a, b);
        Due.due("solve", Engine.shape(x, s) + " " + Engine.shape(x, s + 1), "2 2");
        x.cast(other, 5, 0);
        Due.due("sorted", Engine.shape(x, x.sorted(b, false)), "2");
        x.cast(other, 5, 0);
        int k = x.groups(b, b, 0);
        Due.due("groups", Engine.shape(x, k) + " " + Engine.shape(x, k + 1), "2 2");
        x.cast(other, 5, 0);
        Due.due("join", Engine.shape(x, x.join(b, b)), "2x2");
        x.cast(other, 5, 0);
        Due.due("product", Engine.shape(x, x.product(a, a)), "2x2");
        x.cast(other, 5, 0);
        Due.due("residues", Engine.shape(x, x.residues(b, 5, false)), "2");
        x.cast(other, 5, 0);
        Due.due("fold", Engine.shape(x, x.fold(other, 0, 1)), "1x3x4");
        Due.due("fold", Engine.shape(x, x.fold(b, 0, 0)), "");
        x.cast(other, 5, 0);
        Due.due("running", Engine.shape(x, x.running(b, 0, 0)), "2");
        Engine.table(x, "a\n1\n2\n3\n");
        x.cast(other, 5, 0);
        Due.due("column", Engine.shape(x, x.column(1, 0)), "3");
        x.cast(other, 5, 0);
        Due.due("missing", Engine.shape(x, x.missing(1, 0)), "3");
        int none = grid(x, 4, 2, 2);
        x.cast(other, 5, 0);
        Due.due("failed(0) of solve", x.solve(none, b), -6);
        Due.due("failed(0)", x.failed(0), -1);
    }

    private static void residuesWrapAround() {
        GridEngine x = new GridEngine();
        int g = Engine.row(x, 5, Long.MIN_VALUE);
        for (int p : new int[] {3, 1000000007}) {
            long want = Math.floorMod(Long.MIN_VALUE, (long) p);
            Due.due("the least long, p " + p, x.cell(x.residues(g, p, false), 0), want);
            Due.due("the least long, back, p " + p, x.cell(x.residues(g, p, true), 0), want);
        }
        Due.due("p - 1", x.cell(x.residues(Engine.ints(x, -1), 1000000007, false), 0), 1000000006);
        Due.due("p", x.cell(x.residues(Engine.ints(x, 1000000007), 1000000007, false), 0), 0);
        // Of 5 the least h with h^2 = 4 is 2: W is 2^(4 / 4).
        Due.due("W", Engine.cells(x, x.residues(Engine.ints(x, 0, 1, 0, 0), 5, false)), 1, 2, 4, 3);
        Due.due("of 7 the least h is 3: W is 3^3", Engine.cells(x, x.residues(Engine.ints(x, 0, 1), 7, false)), 1, 6);
        Due.due("n 1: W is 1", Engine.cells(x, x.residues(Engine.ints(x, 4), 5, false)), 4);
        int t = x.residues(Engine.ints(x, 1, -2, 3, -4), 17, false);
        Due.due("there and back", Engine.cells(x, x.residues(t, 17, true)), 1, 15, 3, 13);
    }
}
