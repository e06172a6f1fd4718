/**
 * Term 2 and promises 1 to 21: the bounds of trays, sizes, spots, grids, cells and view texts. Of each
 * the last value that is still taken, the first that is refused, and what stands behind the refusal.
 */
final class GridBoundsTest {
    private GridBoundsTest() {
    }

    public static void main(String[] args) {
        nothingIsThereAtFirst();
        trayHasAtMost16000Bytes();
        fedInAllAreAtMost65536Bytes();
        endTakesWhatTheTrayHas();
        sizesAre0To4096();
        sizesAreAtMost4();
        indexesAreAtMost4();
        gridsAreAtMost400ForLife();
        cellsAreAtMost100000ForLife();
        aGridHasAtMost100000Cells();
        anAxisOf0MakesNoCells();
        newCellsAre0();
        spotsEndAtTheSizes();
        spotsHaveAsManyIndexesAsAxes();
        cellsEndAtTheirNumber();
        sizeEndsAtTheAxes();
        placesOfViewsEndAtTheSize();
        rangesAreCut();
        stepsAreNot0();
        numbersHaveOneToNineDigits();
        itemsAreAtMostTheAxes();
        viewsHaveAtMost4Axes();
        blanksStandAnywhereButInNumbers();
        onlyTheBytesThatCountAreRead();
        emptyTextsAreTheWhole();
        turnedEndsAtTheAxes();
        spreadTakesThatSizeOr1();
        aSpreadViewHasAtMost100000Cells();
        spreadViewsCannotBeWritten();
        shapedTakesAsManyCells();
        sharedCellsAreThoseOfNow();
        Due.finish();
    }

    private static int grid(GridEngine x, int lane, int... sizes) {
        for (int s : sizes) {
            x.axis(s);
        }
        return x.grid(lane);
    }

    private static int spread(GridEngine x, int g, int... sizes) {
        for (int s : sizes) {
            x.axis(s);
        }
        return x.spread(g);
    }

    private static int shaped(GridEngine x, int g, int... sizes) {
        for (int s : sizes) {
            x.axis(s);
        }
        return x.shaped(g);
    }

    private static void nothingIsThereAtFirst() {
        GridEngine x = new GridEngine();
        for (int g : new int[] {Integer.MIN_VALUE, -1, 0, 1, 2, 400, 401, Integer.MAX_VALUE}) {
            Due.due("lane(" + g + ")", x.lane(g), -14);
            Due.due("axes(" + g + ")", x.axes(g), -14);
            Due.due("size(" + g + ", 0)", x.size(g, 0), -14);
            Due.due("cells(" + g + ")", x.cells(g), -14);
            Due.due("rows(" + g + ")", x.rows(g), -14);
            Due.due("cell(" + g + ", 0)", x.cell(g, 0), 0);
            Due.due("code()", x.code(), 14);
        }
        GridEngine y = new GridEngine();
        Due.due("code()", y.code(), 0);
        Due.due("place()", y.place(), -1);
        Due.due("steps()", y.steps(), 0);
        Due.due("failed(0)", y.failed(0), -1);
        Due.due("out(0)", y.out(0), -1);
        Due.due("logged()", y.logged(), 0);
        Due.due("end(0)", y.end(0), 0);
        Due.due("end(1)", y.end(1), -1);
        Due.due("a grid of no sizes", y.axes(y.grid(1)), 0);
        Due.due("get with no indexes", y.get(1), 0);
        Due.due("code()", y.code(), 0);
    }

    private static void trayHasAtMost16000Bytes() {
        GridEngine x = new GridEngine();
        for (int n = 1; n <= 799; n++) {
            x.feed(0, 0, 0, 0, 0);
        }
        Due.due("feed to 16000", x.feed(0, 0, 0, 0, 0), 16000);
        Due.due("feed to 16020", x.feed(1, 1, 1, 1, 1), -1);
        Due.due("it has what it had", x.end(16000), 16000);
        Due.due("and no more", x.end(16001), -1);
        Due.due("15981 are left", x.end(15981), 15981);
        Due.due("feed to 16001", x.feed(1, 1, 1, 1, 1), -1);
        Due.due("none went in", x.end(15982), -1);
        Due.due("15980 are left", x.end(15980), 15980);
        Due.due("feed to 16000 again", x.feed(1, 1, 1, 1, 1), 16000);
        Due.due("a name of 16000 bytes", x.open(), -14);
        Due.due("the tray is used up", x.end(1), -1);
        Due.due("the next bytes are the first", x.feed(1, 1, 1, 1, 1), 20);
    }

    private static void fedInAllAreAtMost65536Bytes() {
        GridEngine x = new GridEngine();
        for (int n = 1; n < 3276; n++) {
            x.feed(0, 0, 0, 0, 0);
            x.end(0);
        }
        Due.due("65520 bytes in all", x.feed(0x61000000, 0, 0, 0, 0), 20);
        Due.due("65540 bytes in all", x.feed(0, 0, 0, 0, 0), -1);
        Due.due("the tray is as it was", x.end(20), 20);
        Due.due("end(1)", x.end(1), 1);
        x.grid(0);
        Due.due("and can be used", x.keep(1), 4 + 1 + 1 + 9 + 8);
        Due.due("nothing more can be fed", x.feed(0, 0, 0, 0, 0), -1);
        x.crash(99);
        x.reopen();
        Due.due("nor behind a crash", x.feed(0, 0, 0, 0, 0), -1);
    }

    private static void endTakesWhatTheTrayHas() {
        GridEngine x = new GridEngine();
        x.feed(0x61626364, 0, 0, 0, 0);
        Due.due("end(21)", x.end(21), -1);
        Due.due("end(MIN)", x.end(Integer.MIN_VALUE), -1);
        Due.due("end(-1)", x.end(-1), -1);
        Due.due("end(20): all stayed", x.end(20), 20);
        Due.due("end(4)", x.end(4), 4);
        Due.due("end(5)", x.end(5), -1);
        Due.due("end(-1)", x.end(-1), -1);
        x.grid(0);
        Due.due("four letters are the name", x.keep(1), 4 + 1 + 4 + 9 + 8);
        Due.due("end(0) of none", x.end(0), 0);
    }

    private static void sizesAre0To4096() {
        GridEngine x = new GridEngine();
        Due.due("axis(-1)", x.axis(-1), -1);
        Due.due("axis(MIN)", x.axis(Integer.MIN_VALUE), -1);
        Due.due("axis(0)", x.axis(0), 1);
        Due.due("axis(4097)", x.axis(4097), -1);
        Due.due("axis(MAX)", x.axis(Integer.MAX_VALUE), -1);
        Due.due("axis(4096)", x.axis(4096), 2);
        Due.due("those refused were not collected", Engine.shape(x, x.grid(1)), "0x4096");
    }

    private static void sizesAreAtMost4() {
        GridEngine x = new GridEngine();
        for (int n = 1; n <= 4; n++) {
            Due.due("axis " + n, x.axis(n), n);
        }
        Due.due("a fifth", x.axis(5), -1);
        Due.due("a fifth that is no size", x.axis(-5), -1);
        Due.due("four are there", Engine.shape(x, x.grid(1)), "1x2x3x4");
        Due.due("and used up", x.axis(7), 1);
    }

    private static void indexesAreAtMost4() {
        GridEngine x = new GridEngine();
        int g = grid(x, 4, 1, 2, 1, 2);
        int[] spot = {0, 1, 0, 1};
        for (int n = 0; n < 4; n++) {
            Due.due("at " + n, x.at(spot[n]), n + 1);
        }
        Due.due("a fifth", x.at(9), -1);
        Due.due("put at the first four", x.put(g, 4, 77), 0);
        Due.due("cell", x.cell(g, 3), 77);
        Due.due("they are used up", x.at(Integer.MIN_VALUE), 1);
        Due.due("any int is an index", x.at(Integer.MAX_VALUE), 2);
        Due.due("get", x.get(g), 0);
        Due.due("code", x.code(), 1);
        Due.due("they are used up", x.at(0), 1);
    }

    private static void gridsAreAtMost400ForLife() {
        GridEngine x = new GridEngine();
        int g = grid(x, 4, 1);
        for (int n = 2; n <= 398; n++) {
            x.turned(g, 0, 0);
        }
        x.crash(0);
        x.reopen();
        int h = grid(x, 4, 1);
        Due.due("lost ones count", h, 399);
        Due.due("the last one", x.turned(h, 0, 0), 400);
        Refused.due(x, "a view", () -> Engine.view(x, h, ""), -12);
        Refused.due(x, "a turned one", () -> x.turned(h, 0, 0), -12);
        Refused.due(x, "a spread one", () -> spread(x, h, 1), -12);
        Refused.due(x, "a shaped one", () -> shaped(x, h, 1), -12);
        Refused.due(x, "a grid", () -> grid(x, 4), -12);
        Refused.due(x, "a grid without cells", () -> grid(x, 4, 0), -12);
        Refused.due(x, "a cast one", () -> x.cast(h, 4, 0), -12);
        Due.due("grid 400 is there", x.lane(400), 4);
        Due.due("grid 401 is not", x.lane(401), -14);
        Due.due("grids of the time before are not", x.lane(398), -14);
    }

    private static void cellsAreAtMost100000ForLife() {
        GridEngine x = new GridEngine();
        Due.due("99999 cells", grid(x, 1, 41, 2439), 1);
        Due.due("two more", grid(x, 1, 2), -12);
        Due.due("what was refused took no cells: one more", grid(x, 1, 1), 2);
        Due.due("another one", grid(x, 1), -12);
        Due.due("none more are taken by no cells", grid(x, 1, 0), 3);
        Due.due("a view needs none", Engine.view(x, 1, "0"), 4);
        Due.due("a spread view needs none", spread(x, 2, 100), 5);
        Due.due("a shaped one does", shaped(x, 2, 1, 1), -12);
        Due.due("a cast one does", x.cast(2, 1, 0), -12);
        Due.due("a sorted one does", x.sorted(2, false), -12);
        Due.due("a fold does", x.fold(2, 0, 0), -12);
        Due.due("a shaped one of no cells does not", shaped(x, 3, 0, 7), 6);
        x.crash(0);
        x.reopen();
        Due.due("cells that were lost are not given back", grid(x, 1), -12);
        Due.due("no cells", grid(x, 1, 5, 0), 7);
    }

    private static void aGridHasAtMost100000Cells() {
        GridEngine x = new GridEngine();
        // 100001 has no factors that are sizes.
        Refused.due(x, "100002 cells", () -> grid(x, 1, 2, 3, 7, 2381), -12);
        Refused.due(x, "4096 * 4096", () -> grid(x, 1, 4096, 4096), -12);
        Refused.due(x, "4096 ^ 4, which an int has as 0", () -> grid(x, 1, 4096, 4096, 4096, 4096), -12);
        Refused.due(x, "2 ^ 32, which an int has as 0", () -> grid(x, 1, 4096, 1024, 1024), -12);
        Refused.due(x, "2 ^ 32 + 4096", () -> grid(x, 1, 4096, 1024, 1024, 1), -12);
        Due.due("100000 cells", x.cells(grid(x, 1, 25, 4000)), 100000);
        Due.due("the last one", x.cell(1, 99999), 0);
        Due.due("code", x.code(), 0);
        Due.due("one beyond", x.cell(1, 100000), 0);
        Due.due("code", x.code(), 2);
    }

    private static void anAxisOf0MakesNoCells() {
        GridEngine x = new GridEngine();
        int g = grid(x, 4, 4096, 0, 4096, 4096);
        Due.due("cells", x.cells(g), 0);
        Due.due("shape", Engine.shape(x, g), "4096x0x4096x4096");
        Due.due("cell 0", x.cell(g, 0), 0);
        Due.due("code", x.code(), 2);
        x.at(0);
        x.at(0);
        x.at(0);
        x.at(0);
        Due.due("no spot", x.put(g, 4, 1), -2);
        Due.due("a view", x.cells(Engine.view(x, g, "0,:,0,0")), 0);
        Due.due("turned", Engine.shape(x, x.turned(g, 0, 1)), "0x4096x4096x4096");
        Due.due("it shares nothing", x.shares(g, g), 0);
        Due.due("copy", x.copy(g, g), 0);
        Due.due("cast", x.cells(x.cast(g, 1, 2)), 0);
    }

    private static void newCellsAre0() {
        GridEngine x = new GridEngine();
        for (int lane = 0; lane < 8; lane++) {
            int g = grid(x, lane, 3);
            Due.due("cells of lane " + lane, Engine.cells(x, g), 0, 0, 0);
        }
    }

    private static void spotsEndAtTheSizes() {
        GridEngine x = new GridEngine();
        int g = grid(x, 4, 3, 4096);
        int[][] there = {{0, 0}, {2, 0}, {0, 4095}, {2, 4095}};
        int[][] beyond = {{3, 0}, {-1, 0}, {0, 4096}, {0, -1}, {3, 4096}, {Integer.MIN_VALUE, 0}, {0, Integer.MAX_VALUE}, {1, -4096}};
        for (int[] spot : there) {
            x.at(spot[0]);
            x.at(spot[1]);
            Due.due("put", x.put(g, 4, 5), 0);
            x.at(spot[0]);
            x.at(spot[1]);
            Due.due("get", x.get(g), 5);
            Due.due("code", x.code(), 0);
        }
        for (int[] spot : beyond) {
            Refused.due(x, "put at " + spot[0] + ", " + spot[1], () -> {
                x.at(spot[0]);
                x.at(spot[1]);
                return x.put(g, 4, 9);
            }, -2);
            x.at(spot[0]);
            x.at(spot[1]);
            Due.due("get", x.get(g), 0);
            Due.due("code", x.code(), 2);
        }
    }

    private static void spotsHaveAsManyIndexesAsAxes() {
        GridEngine x = new GridEngine();
        int[] grids = {grid(x, 4), grid(x, 4, 1), grid(x, 4, 1, 1), grid(x, 4, 1, 1, 1), grid(x, 4, 1, 1, 1, 1)};
        for (int axes = 0; axes <= 4; axes++) {
            for (int many = 0; many <= 4; many++) {
                for (int k = 0; k < many; k++) {
                    x.at(0);
                }
                Due.due("put", x.put(grids[axes], 4, 10 * axes + many), axes == many ? 0 : -1);
                for (int k = 0; k < many; k++) {
                    x.at(0);
                }
                Due.due("get", x.get(grids[axes]), axes == many ? 11 * axes : 0);
                Due.due("code", x.code(), axes == many ? 0 : 1);
            }
            Due.due("cell", x.cell(grids[axes], 0), 11 * axes);
        }
    }

    private static void cellsEndAtTheirNumber() {
        GridEngine x = new GridEngine();
        int g = Engine.grid(x, 5, new int[] {2, 2}, 4, 5, 6, 7);
        long[] want = {0, 4, 5, 6, 7, 0};
        int[] code = {2, 0, 0, 0, 0, 2};
        for (int n = -1; n <= 4; n++) {
            Due.due("cell " + n, x.cell(g, n), want[n + 1]);
            Due.due("code", x.code(), code[n + 1]);
        }
        Due.due("cell MIN", x.cell(g, Integer.MIN_VALUE), 0);
        Due.due("code", x.code(), 2);
        Due.due("cell MAX", x.cell(g, Integer.MAX_VALUE), 0);
        Due.due("code", x.code(), 2);
    }

    private static void sizeEndsAtTheAxes() {
        GridEngine x = new GridEngine();
        int g = grid(x, 4, 5, 6, 7, 0);
        int[] want = {-2, 5, 6, 7, 0, -2};
        for (int k = -1; k <= 4; k++) {
            Due.due("size " + k, x.size(g, k), want[k + 1]);
        }
        int none = grid(x, 4);
        Due.due("size of no axes", x.size(none, 0), -2);
        Due.due("size MIN", x.size(g, Integer.MIN_VALUE), -2);
        Due.due("size MAX", x.size(g, Integer.MAX_VALUE), -2);
    }

    /** An engine whose grid 1 has ten cells 0 .. 9, and grid 2 is 2 by 3. */
    private static GridEngine engine() {
        GridEngine x = new GridEngine();
        Engine.ints(x, 0, 1, 2, 3, 4, 5, 6, 7, 8, 9);
        Engine.grid(x, 4, new int[] {2, 3}, 10, 11, 12, 20, 21, 22);
        return x;
    }

    private static void look(int g, String text, String shape, long... cells) {
        GridEngine x = engine();
        int v = Engine.view(x, g, text);
        Due.due("view <" + text + ">", v, 3);
        Due.due("place()", x.place(), -1);
        Due.due("shape of <" + text + ">", Engine.shape(x, v), shape);
        Due.due("cells of <" + text + ">", Engine.cells(x, v), cells);
    }

    private static void fault(int g, String text, int place) {
        GridEngine x = engine();
        Refused.due(x, "view <" + text + ">", () -> Engine.view(x, g, text), -20);
        Due.due("place of <" + text + ">", x.place(), place);
        Due.due("the tray is used up", x.end(1), -1);
        Due.due("a view of nothing is the whole", x.cells(x.view(g)), x.cells(g));
        Due.due("place()", x.place(), -1);
    }

    private static void placesOfViewsEndAtTheSize() {
        look(1, "9", "", 9);
        fault(1, "10", 0);
        look(1, "-10", "", 0);
        fault(1, "-11", 0);
        look(1, "0", "", 0);
        look(1, "-1", "", 9);
        look(2, "1,2", "", 22);
        fault(2, "2,2", 0);
        fault(2, "1,3", 2);
        fault(2, "1, -4", 3);
        fault(1, "999999999", 0);
        fault(1, "-999999999", 0);
        GridEngine x = new GridEngine();
        int none = grid(x, 4, 0);
        Refused.due(x, "place 0 of none", () -> Engine.view(x, none, "0"), -20);
        Refused.due(x, "place -1 of none", () -> Engine.view(x, none, " -1"), -20);
        Due.due("place()", x.place(), 1);
    }

    private static void rangesAreCut() {
        look(1, "8:10", "2", 8, 9);
        look(1, "8:11", "2", 8, 9);
        look(1, "8:999999999", "2", 8, 9);
        look(1, "9:", "1", 9);
        look(1, "10:", "0");
        look(1, "11:", "0");
        look(1, ":0", "0");
        look(1, ":1", "1", 0);
        look(1, ":-9", "1", 0);
        look(1, ":-10", "0");
        look(1, ":-11", "0");
        look(1, "-10:2", "2", 0, 1);
        look(1, "-11:2", "2", 0, 1);
        look(1, "-1:", "1", 9);
        look(1, "3:3", "0");
        look(1, "4:3", "0");
        look(1, "3:4", "1", 3);
        look(1, "9::-1", "10", 9, 8, 7, 6, 5, 4, 3, 2, 1, 0);
        look(1, "10:7:-1", "2", 9, 8);
        look(1, "99:7:-1", "2", 9, 8);
        look(1, "0::-1", "1", 0);
        look(1, "-10::-1", "1", 0);
        look(1, "-11::-1", "0");
        look(1, "1:0:-1", "1", 1);
        look(1, "1:-10:-1", "1", 1);
        look(1, "1:-11:-1", "2", 1, 0);
        look(1, ":8:-1", "1", 9);
        look(1, ":-1:-1", "0");
        look(1, ":9:-1", "0");
        look(1, "::9", "2", 0, 9);
        look(1, "::10", "1", 0);
        look(1, "::-9", "2", 9, 0);
        look(1, "::-10", "1", 9);
        look(1, "::999999999", "1", 0);
        look(1, "::-999999999", "1", 9);
        look(1, "1:8:3", "3", 1, 4, 7);
        look(1, "1:7:3", "2", 1, 4);
        look(1, "8:1:-3", "3", 8, 5, 2);
        look(1, "8:2:-3", "2", 8, 5);
        GridEngine x = new GridEngine();
        int none = grid(x, 4, 0);
        for (String text : new String[] {":", "::-1", "0:0", "-1:", "5:9", "::-5", "4:-4:-1"}) {
            Due.due("<" + text + "> of none", Engine.shape(x, Engine.view(x, none, text)), "0");
        }
    }

    private static void stepsAreNot0() {
        look(1, "4:6:1", "2", 4, 5);
        look(1, "5:3:-1", "2", 5, 4);
        fault(1, "4:6:0", 0);
        fault(1, "  ::0", 2);
        fault(1, "::-0", 0);
        fault(1, "::000000000", 0);
        fault(2, ":, ::0", 3);
        look(1, "4:6:", "2", 4, 5);
    }

    private static void numbersHaveOneToNineDigits() {
        look(1, "000000007", "", 7);
        fault(1, "0000000007", 9);
        look(1, "-000000007", "", 3);
        fault(1, "-0000000007", 10);
        look(1, "000000007:000000009:000000001", "2", 7, 8);
        fault(1, "7:0000000009", 11);
        fault(1, "7:9:0000000001", 13);
        fault(1, "-", 1);
        fault(1, "--1", 1);
        fault(1, "-:", 1);
        fault(1, "1:-", 3);
        fault(1, "1::-", 4);
        fault(1, "+1", 0);
    }

    private static void itemsAreAtMostTheAxes() {
        look(2, "1,2", "", 22);
        fault(2, "1,2,0", 4);
        fault(2, ":,:, :", 5);
        look(2, "*,1,2", "1", 22);
        fault(2, "*,1,2,:", 6);
        look(2, "1", "3", 20, 21, 22);
        GridEngine x = new GridEngine();
        int none = grid(x, 4);
        Due.due("no axes, no items", Engine.view(x, none, " "), 2);
        Due.due("no axes, a new one", Engine.shape(x, Engine.view(x, none, "*")), "1");
        Refused.due(x, "no axes, one item", () -> Engine.view(x, none, "0"), -20);
        Due.due("place()", x.place(), 0);
        Refused.due(x, "no axes, one range", () -> Engine.view(x, none, "*, :"), -20);
        Due.due("place()", x.place(), 3);
        int four = grid(x, 4, 1, 1, 1, 1);
        Due.due("four items", x.axes(Engine.view(x, four, "0,0,0,0")), 0);
        Refused.due(x, "five items", () -> Engine.view(x, four, "0,0,0,0,0"), -20);
        Due.due("place()", x.place(), 8);
    }

    private static void viewsHaveAtMost4Axes() {
        look(2, "*,*", "1x1x2x3", 10, 11, 12, 20, 21, 22);
        fault(2, "*,*,*", 5);
        look(2, "*,*,*,0", "1x1x1x3", 10, 11, 12);
        look(2, "*,*,*,*,0,0", "1x1x1x1", 10);
        fault(2, "*,*,*,*,0", 9);
        fault(2, "*,*,* ,:  ", 10);
        fault(1, "*,*,*,*", 7);
        // A byte that does not belong, then an item's fault, come before too many axes.
        fault(1, "*,*,*,*,x", 8);
        fault(1, "*,*,*,*,77", 8);
        fault(1, "*,*,*,*,::0", 8);
    }

    private static void blanksStandAnywhereButInNumbers() {
        look(2, "  1  ,  0 : 2 : 1  ", "2", 20, 21);
        look(2, " * , 1 , : : ", "1x3", 20, 21, 22);
        fault(1, "1 2", 2);
        fault(1, "- 1", 1);
        fault(1, "1:2 3", 4);
        fault(1, "1:2:- 3", 5);
        fault(1, "1\t", 1);
        fault(1, "1\n", 1);
        fault(1, "1\u0000", 1);
        fault(1, "\u00a0", 0);
        fault(2, "1,", 2);
        fault(2, "1, ", 3);
        fault(2, " ,1", 1);
        fault(2, "1 ,, 1", 3);
        fault(1, ":::", 2);
        fault(1, "1:2:3:", 5);
        fault(1, "**", 1);
        fault(1, "*1", 1);
        fault(1, "1*", 1);
        // The first byte that does not belong comes before every item's own fault.
        fault(1, "77,::0,x", 7);
        fault(1, "77,::0,", 7);
    }

    /** What stands in the tray behind them is not looked at. */
    private static void onlyTheBytesThatCountAreRead() {
        String[] texts = {"", "1", "1,", "1:", "-", "*", ":", "::", "1,2", " ", "1 "};
        for (String text : texts) {
            GridEngine x = engine();
            int want = Engine.view(x, 2, text);
            int place = x.place();
            for (String behind : new String[] {" ", "   ", "1", ",", ":", "*", "-1", "x", "\u0000"}) {
                GridEngine y = engine();
                Engine.feed(y, text + behind);
                y.end(text.length());
                Due.due("view <" + text + "> before <" + behind + ">", y.view(2), want);
                Due.due("place()", y.place(), place);
                Due.due("shape", Engine.shape(y, want), Engine.shape(x, want));
            }
        }
    }

    private static void emptyTextsAreTheWhole() {
        look(1, "", "10", 0, 1, 2, 3, 4, 5, 6, 7, 8, 9);
        look(1, "     ", "10", 0, 1, 2, 3, 4, 5, 6, 7, 8, 9);
        GridEngine x = engine();
        int v = Engine.view(x, 1, "");
        x.at(3);
        x.put(v, 4, 99);
        Due.due("written through the view", x.cell(1, 3), 99);
        x.at(4);
        x.put(1, 4, 98);
        Due.due("written through the grid", x.cell(v, 4), 98);
    }

    private static void turnedEndsAtTheAxes() {
        GridEngine x = engine();
        Due.due("0, 1", Engine.shape(x, x.turned(2, 0, 1)), "3x2");
        Due.due("1, 0", Engine.shape(x, x.turned(2, 1, 0)), "3x2");
        Due.due("0, 0", Engine.shape(x, x.turned(2, 0, 0)), "2x3");
        int[][] wrong = {{0, 2}, {2, 0}, {-1, 0}, {0, -1}, {2, 2}, {Integer.MIN_VALUE, 0}, {0, Integer.MAX_VALUE}};
        for (int[] w : wrong) {
            Refused.due(x, "turned " + w[0] + ", " + w[1], () -> x.turned(2, w[0], w[1]), -2);
        }
        int none = grid(x, 4);
        Refused.due(x, "turned of no axes", () -> x.turned(none, 0, 0), -2);
    }

    private static void spreadTakesThatSizeOr1() {
        GridEngine x = new GridEngine();
        int g = Engine.grid(x, 4, new int[] {1, 3}, 7, 8, 9);
        Due.due("1 to 2", Engine.cells(x, spread(x, g, 2, 3)), 7, 8, 9, 7, 8, 9);
        Due.due("1 to 0", Engine.shape(x, spread(x, g, 0, 3)), "0x3");
        Due.due("1 to 4096", x.cells(spread(x, g, 4096, 3)), 12288);
        Due.due("1 to 1", Engine.cells(x, spread(x, g, 1, 3)), 7, 8, 9);
        Due.due("two axes more", Engine.shape(x, spread(x, g, 2, 2, 1, 3)), "2x2x1x3");
        Refused.due(x, "3 to 2", () -> spread(x, g, 1, 2), -3);
        Refused.due(x, "3 to 4", () -> spread(x, g, 1, 4), -3);
        Refused.due(x, "3 to 1", () -> spread(x, g, 1, 1), -3);
        Refused.due(x, "3 to 0", () -> spread(x, g, 1, 0), -3);
        Refused.due(x, "sizes counted from the first", () -> spread(x, g, 1, 3, 2), -3);
        Refused.due(x, "an axis too few", () -> spread(x, g, 3), -3);
        Refused.due(x, "no sizes", () -> spread(x, g), -3);
        int none = grid(x, 4, 0);
        Due.due("0 to 0", x.cells(spread(x, none, 5, 0)), 0);
        Refused.due(x, "0 to 1", () -> spread(x, none, 1), -3);
        int one = grid(x, 4);
        Due.due("no axes to none", Engine.shape(x, spread(x, one)), "");
        Due.due("no axes to four", x.cells(spread(x, one, 2, 3, 4, 5)), 120);
    }

    private static void aSpreadViewHasAtMost100000Cells() {
        GridEngine x = new GridEngine();
        int one = grid(x, 1);
        Due.due("100000 cells", x.cells(spread(x, one, 4000, 25)), 100000);
        Due.due("99999 cells", x.cells(spread(x, one, 9, 271, 41)), 99999);
        Refused.due(x, "100002 cells", () -> spread(x, one, 2, 3, 7, 2381), -12);
        Refused.due(x, "4096 ^ 4", () -> spread(x, one, 4096, 4096, 4096, 4096), -12);
        Refused.due(x, "2 ^ 32", () -> spread(x, one, 1024, 1024, 4096), -12);
        Due.due("none of 4096 ^ 3", x.cells(spread(x, one, 4096, 4096, 0, 4096)), 0);
        int two = grid(x, 1, 2);
        Refused.due(x, "3 before 12", () -> spread(x, two, 4096, 4096, 3), -3);
        Due.due("spread views take no cells: 99997 are left", x.cells(grid(x, 1, 67, 1492)), 99964);
        Due.due("33 are left", x.cells(grid(x, 1, 33)), 33);
        Due.due("none is left", grid(x, 1), -12);
    }

    private static void spreadViewsCannotBeWritten() {
        GridEngine x = new GridEngine();
        int g = Engine.ints(x, 1, 2);
        int same = spread(x, g, 2);
        int wide = spread(x, g, 3, 2);
        int part = Engine.view(x, wide, "0");
        int whole = Engine.view(x, same, "");
        int turned = x.turned(wide, 0, 1);
        int again = spread(x, same, 2);
        for (int s : new int[] {same, part, whole, again}) {
            Refused.due(x, "put", () -> {
                x.at(0);
                return x.put(s, 4, 9);
            }, -5);
            Refused.due(x, "put where there is no spot", () -> {
                x.at(7);
                return x.put(s, 4, 9);
            }, -5);
            Refused.due(x, "put of a wrong lane", () -> {
                x.at(0);
                return x.put(s, 5, 9);
            }, -1);
            Refused.due(x, "copy", () -> x.copy(g, s), -5);
            Due.due("copy out of it", x.copy(s, g), 0);
        }
        Refused.due(x, "copy into a turned one", () -> x.copy(g, turned), -5);
        x.at(1);
        Due.due("the grid itself can be written", x.put(g, 4, 5), 0);
        Due.due("it shows", Engine.cells(x, wide), 1, 5, 1, 5, 1, 5);
        int own = shaped(x, wide, 6);
        x.at(5);
        Due.due("a shaped one has its own cells", x.put(own, 4, 9), 0);
        Due.due("the grid stays", Engine.cells(x, g), 1, 5);
    }

    /** What was looked at before does not count. */
    private static void sharedCellsAreThoseOfNow() {
        GridEngine x = engine();
        int even = Engine.view(x, 1, "::2");
        int odd = Engine.view(x, 1, "1::2");
        int none = Engine.view(x, 1, "4:4");
        for (int round = 0; round < 3; round++) {
            Due.due("even ones", x.shares(even, even), 1);
            Due.due("odd and even ones", x.shares(odd, even), 0);
            Due.due("even and odd ones", x.shares(even, odd), 0);
            Due.due("none and all", x.shares(none, 1), 0);
            Due.due("all and none", x.shares(1, none), 0);
            Due.due("all and odd ones", x.shares(1, odd), 1);
        }
        x.bind(0, 1);
        Engine.formula(x, "a * 0 + 1");
        Due.due("behind a row of ones", x.shares(odd, even), 0);
        Due.due("first and last", x.shares(Engine.view(x, 1, ":1"), Engine.view(x, 1, "-1:")), 0);
        Due.due("the last one", x.shares(Engine.view(x, 1, "9"), odd), 1);
        Due.due("cells of other grids", x.shares(1, 2), 0);
    }

    private static void shapedTakesAsManyCells() {
        GridEngine x = new GridEngine();
        int g = Engine.ints(x, 1, 2, 3, 4, 5, 6);
        Due.due("6", Engine.shape(x, shaped(x, g, 6)), "6");
        Due.due("1x2x3x1", Engine.cells(x, shaped(x, g, 1, 2, 3, 1)), 1, 2, 3, 4, 5, 6);
        Refused.due(x, "5", () -> shaped(x, g, 5), -3);
        Refused.due(x, "7", () -> shaped(x, g, 7), -3);
        Refused.due(x, "none", () -> shaped(x, g), -3);
        Refused.due(x, "0", () -> shaped(x, g, 0), -3);
        Refused.due(x, "2x3x0", () -> shaped(x, g, 2, 3, 0), -3);
        int one = grid(x, 4);
        Due.due("one cell without axes", Engine.shape(x, shaped(x, one, 1, 1, 1, 1)), "1x1x1x1");
        Due.due("one cell to no axes", Engine.shape(x, shaped(x, one)), "");
        int none = grid(x, 4, 0);
        Due.due("0 cells", Engine.shape(x, shaped(x, none, 0, 4096, 4096, 4096)), "0x4096x4096x4096");
        Refused.due(x, "0 cells to no axes", () -> shaped(x, none), -3);
        Refused.due(x, "2 ^ 32 cells are not 0", () -> shaped(x, none, 4096, 1024, 1024), -3);
    }
}
