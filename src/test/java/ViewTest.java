import java.util.ArrayList;
import java.util.List;
import java.util.Random;

/** Promises 15 to 21: views and their texts, spread views, shapes, shares and copies. */
final class ViewTest {
    private static final Random RANDOM = new Random(3);

    private ViewTest() {
    }

    public static void main(String[] args) {
        plainTexts();
        faults();
        places();
        turned();
        spread();
        shaped();
        shares();
        copies();
        for (int round = 0; round < 3000; round++) {
            randomView();
        }
        Due.finish();
    }

    private static GridEngine engine() {
        GridEngine x = new GridEngine();
        Engine.grid(x, 4, new int[] {2, 3}, 10, 11, 12, 20, 21, 22);
        Engine.row(x, 4, 0, 1, 2, 3, 4, 5, 6, 7, 8, 9);
        return x;
    }

    private static void look(String text, int g, String shape, long... cells) {
        GridEngine x = engine();
        int v = Engine.view(x, g, text);
        Due.due("view <" + text + ">", v, 3);
        Due.due("place", x.place(), -1);
        Due.due("shape <" + text + ">", Engine.shape(x, v), shape);
        Due.due("cells <" + text + ">", Engine.cells(x, v), cells);
        Due.due("lane", x.lane(v), 4);
    }

    private static void plainTexts() {
        look("", 1, "2x3", 10, 11, 12, 20, 21, 22);
        look("   ", 1, "2x3", 10, 11, 12, 20, 21, 22);
        look("1", 1, "3", 20, 21, 22);
        look("-2", 1, "3", 10, 11, 12);
        look("0,-1", 1, "", 12);
        look(" 1 , 2 ", 1, "", 22);
        look(":,1", 1, "2", 11, 21);
        look("*,0", 1, "1x3", 10, 11, 12);
        look("0,*", 1, "1x3", 10, 11, 12);
        look("*,:,*,:", 1, "1x2x1x3", 10, 11, 12, 20, 21, 22);
        look("1,2,*", 1, "1", 22);
        look("::-1,::2", 1, "2x2", 20, 22, 10, 12);
        look("2:5", 2, "3", 2, 3, 4);
        look(" 2 : 5 : 2 ", 2, "2", 2, 4);
        look(":3", 2, "3", 0, 1, 2);
        look("7:", 2, "3", 7, 8, 9);
        look("-3:", 2, "3", 7, 8, 9);
        look(":-7", 2, "3", 0, 1, 2);
        look("5:2", 2, "0");
        look("5:2:-1", 2, "3", 5, 4, 3);
        look("::-3", 2, "4", 9, 6, 3, 0);
        look("-2::-4", 2, "3", 8, 4, 0);
        look(":-4:-1", 2, "3", 9, 8, 7);
        look("999999999:-999999999:-1", 2, "10", 9, 8, 7, 6, 5, 4, 3, 2, 1, 0);
        look("-999999999:999999999:999999999", 2, "1", 0);
        look("4::-999999999", 2, "1", 4);
        look("10:", 2, "0");
        look("3:3", 2, "0");
        look("-0", 2, "", 0);
        look("000000003", 2, "", 3);
        look("2:8,*", 2, "6x1", 2, 3, 4, 5, 6, 7);
        look("::1:".substring(0, 3), 2, "10", 0, 1, 2, 3, 4, 5, 6, 7, 8, 9);
        look("::", 2, "10", 0, 1, 2, 3, 4, 5, 6, 7, 8, 9);
    }

    private static void fault(String text, int g, int place) {
        GridEngine x = engine();
        Due.due("view <" + text + ">", Engine.view(x, g, text), -20);
        Due.due("place <" + text + ">", x.place(), place);
        Due.due("no grid is made", x.lane(3), -14);
        Due.due("the tray is used up", Engine.view(x, g, ""), 3);
        Due.due("place behind a view", x.place(), -1);
    }

    private static void faults() {
        fault("x", 1, 0);
        fault("0,", 1, 2);
        fault("0, ", 1, 3);
        fault(",0", 1, 0);
        fault("0,,1", 1, 2);
        fault("-", 1, 1);
        fault("- 1", 1, 1);
        fault("1:-", 2, 3);
        fault("1:- 2", 2, 3);
        fault("::-", 2, 3);
        fault("::-,0", 2, 3);
        fault("1 1", 1, 2);
        fault("1234567890", 1, 9);
        fault(":1234567890", 2, 10);
        fault("1:2:3:4", 2, 5);
        fault("**", 1, 1);
        fault("*:", 1, 1);
        fault("0\t", 1, 1);
        fault("+1", 1, 0);
        fault("2", 1, 0);
        fault("-3", 1, 0);
        fault("0, 3", 1, 3);
        fault("  2,0", 1, 2);
        fault("0,0,0", 1, 4);
        fault("*,0,0, 0", 1, 7);
        fault("::0", 2, 0);
        fault(" ::-0", 2, 1);
        fault("10", 2, 0);
        fault("-11", 2, 0);
        fault("*,*,*", 1, 5);
        fault(":,*,*,*  ", 1, 9);
        fault("9,*,*,*,*,*", 2, 11);
        fault("9,9,x", 2, 4);
        fault("99,99,9,*", 2, 0);
        fault("\u00e9", 2, 0);
        GridEngine x = new GridEngine();
        int z = Engine.grid(x, 4, new int[] {0});
        Due.due("place 0 of none", Engine.view(x, z, "0"), -20);
        Due.due("::-1 of none", x.cells(Engine.view(x, z, "::-1")), 0);
        Due.due("4: of none", x.cells(Engine.view(x, z, "4:")), 0);
    }

    private static void places() {
        GridEngine x = engine();
        Due.due("view of none", Engine.view(x, 9, "x"), -14);
        Due.due("place stays", x.place(), -1);
        Engine.view(x, 1, "0,y");
        Due.due("place", x.place(), 2);
        Due.due("view of none", Engine.view(x, 9, "x"), -14);
        Due.due("place of the latest that was not refused otherwise", x.place(), 2);
        Due.due("the tray was used up", x.view(1), 3);
        Due.due("place", x.place(), -1);
        Engine.view(x, 1, "0,y");
        x.crash(0);
        Due.due("place behind a crash", x.place(), -1);
        Engine.feed(x, "0");
        Due.due("view, closed", x.view(1), -13);
        x.reopen();
        int g = Engine.row(x, 4, 5, 6);
        Due.due("the tray stays by -13", x.axes(x.view(g)), 0);
        GridEngine y = new GridEngine();
        y.grid(1);
        for (int n = 2; n <= 400; n++) {
            y.turned(1, 0, 0);
            y.view(1);
        }
        Due.due("400 grids", y.lane(400), 1);
        Due.due("no more views", y.view(1), -12);
        Due.due("a fault before no room", Engine.view(y, 1, "0"), -20);
        y.axis(1);
        Due.due("no more spread views", y.spread(1), -12);
    }

    private static void turned() {
        GridEngine x = engine();
        int t = x.turned(1, 0, 1);
        Due.due("turned", t, 3);
        Due.due("shape", Engine.shape(x, t), "3x2");
        Due.due("cells", Engine.cells(x, t), 10, 20, 11, 21, 12, 22);
        x.at(2);
        x.at(0);
        Due.due("put through a view", x.put(t, 1, 99), 0);
        Due.due("it shows in the grid", x.cell(1, 2), 99);
        Due.due("the same axis", Engine.cells(x, x.turned(1, 1, 1)), 10, 11, 99, 20, 21, 22);
        Due.due("axis 2", x.turned(1, 0, 2), -2);
        Due.due("axis -1", x.turned(1, -1, 0), -2);
        Due.due("turned of none", x.turned(77, 0, 9), -14);
        x.crash(0);
        Due.due("turned, closed", x.turned(1, 0, 9), -13);
        GridEngine y = new GridEngine();
        int g = Engine.grid(y, 4, new int[] {2, 1, 3}, 1, 2, 3, 4, 5, 6);
        Due.due("turned 3 axes", Engine.cells(y, y.turned(g, 0, 2)), 1, 4, 2, 5, 3, 6);
        Due.due("shape", Engine.shape(y, 2), "3x1x2");
    }

    private static int spread(GridEngine x, int g, int... sizes) {
        for (int s : sizes) {
            x.axis(s);
        }
        return x.spread(g);
    }

    private static void spread() {
        GridEngine x = engine();
        int s = spread(x, 1, 2, 2, 3);
        Due.due("spread", s, 3);
        Due.due("cells", Engine.cells(x, s), 10, 11, 12, 20, 21, 22, 10, 11, 12, 20, 21, 22);
        Due.due("spread of other sizes", spread(x, 1, 3, 3), -3);
        Due.due("spread with too few", spread(x, 1, 3), -3);
        Due.due("spread with none", spread(x, 1), -3);
        Due.due("spread of none", spread(x, 9, 3), -14);
        Due.due("sizes are used up", x.axis(1), 1);
        x.grid(0);
        int one = x.grid(4);
        x.put(one, 4, 7);
        int t = spread(x, one, 2, 3);
        Due.due("spread of one", Engine.cells(x, t), 7, 7, 7, 7, 7, 7);
        int v = Engine.view(x, t, "0,0");
        Due.due("put into a view of a spread view", x.put(v, 4, 1), -5);
        int same = spread(x, one);
        Due.due("put into a spread view of the same sizes", x.put(same, 4, 1), -5);
        int u = x.turned(t, 0, 1);
        Due.due("copy into a turned spread view", x.copy(u, u), -5);
        Due.due("shares", x.shares(one, v), 1);
        x.put(one, 4, 8);
        Due.due("it shows", x.cell(t, 5), 8);
        int row = Engine.grid(x, 1, new int[] {1, 2}, 5, 6);
        Due.due("1x2 to 0x2", x.cells(spread(x, row, 0, 2)), 0);
        Due.due("1x2 to 3x2", Engine.cells(x, spread(x, row, 3, 2)), 5, 6, 5, 6, 5, 6);
        int four = Engine.grid(x, 1, new int[] {2, 1, 1, 1}, 3, 4);
        Due.due("four axes", Engine.cells(x, spread(x, four, 2, 1, 2, 1)), 3, 3, 4, 4);
        Due.due("four axes, the first unlike", spread(x, four, 3, 1, 2, 1), -3);
        Due.due("four axes, one too few", spread(x, four, 1, 2, 1), -3);
        Due.due("too many cells", spread(x, row, 4096, 4096, 2), -12);
        Due.due("sizes before room", spread(x, row, 4096, 4096, 3), -3);
        Due.due("100000 cells", x.cells(spread(x, one, 250, 400)), 100000);
        int none = Engine.grid(x, 1, new int[] {0});
        Due.due("0 to 1", spread(x, none, 1), -3);
        Due.due("0 to 4096 x 0", x.cells(spread(x, none, 4096, 0)), 0);
        x.crash(0);
        x.axis(2);
        Due.due("spread, closed", x.spread(1), -13);
        Due.due("sizes were used up", x.axis(2), 1);
    }

    private static int shaped(GridEngine x, int g, int... sizes) {
        for (int s : sizes) {
            x.axis(s);
        }
        return x.shaped(g);
    }

    private static void shaped() {
        GridEngine x = engine();
        int t = x.turned(1, 0, 1);
        int s = shaped(x, t, 6);
        Due.due("cells", Engine.cells(x, s), 10, 20, 11, 21, 12, 22);
        Due.due("it has its own cells", x.shares(s, 1), 0);
        x.at(0);
        Due.due("put", x.put(s, 4, 1), 0);
        Due.due("the other one stays", x.cell(1, 0), 10);
        Due.due("another number of cells", shaped(x, t, 7), -3);
        Due.due("another number of cells", shaped(x, t), -3);
        Due.due("wrapping sizes", shaped(x, t, 4096, 4096, 4096, 4096), -3);
        Due.due("1x6x1x1", Engine.shape(x, shaped(x, t, 1, 6, 1, 1)), "1x6x1x1");
        Due.due("shaped of none", shaped(x, 99, 7), -14);
        int z = Engine.grid(x, 2, new int[] {0, 5});
        Due.due("no cells", Engine.shape(x, shaped(x, z, 4096, 0, 4096)), "4096x0x4096");
        int one = x.grid(6);
        x.axis(2);
        int sp = x.spread(one);
        int own = shaped(x, sp, 2, 1);
        x.at(0);
        x.at(0);
        Due.due("shaped of a spread view can be written", x.put(own, 6, 0), 0);
        int big = Engine.grid(x, 1, new int[] {300, 300});
        Due.due("no room", shaped(x, big, 300, 300), -12);
        x.crash(0);
        x.axis(7);
        Due.due("shaped, closed", x.shaped(9), -13);
        Due.due("sizes were used up", x.axis(7), 1);
    }

    private static void shares() {
        GridEngine x = engine();
        int even = Engine.view(x, 2, "::2");
        int odd = Engine.view(x, 2, "1::2");
        int thirds = Engine.view(x, 2, "::-3");
        Due.due("even, odd", x.shares(even, odd), 0);
        Due.due("even, thirds", x.shares(even, thirds), 1);
        Due.due("odd, thirds", x.shares(odd, thirds), 1);
        Due.due("itself", x.shares(2, 2), 1);
        Due.due("other grids", x.shares(1, 2), 0);
        Due.due("an empty view", x.shares(2, Engine.view(x, 2, "3:3")), 0);
        int none = Engine.grid(x, 4, new int[] {0});
        Due.due("none with itself", x.shares(none, none), 0);
        Due.due("first absent", x.shares(55, 1), -14);
        Due.due("second absent", x.shares(1, 55), -14);
        x.crash(0);
        Due.due("shares, closed", x.shares(1, 1), -13);
    }

    private static void copies() {
        GridEngine x = engine();
        int first = Engine.view(x, 2, ":9");
        int last = Engine.view(x, 2, "1:");
        Due.due("copy", x.copy(first, last), 0);
        Due.due("as through a copy", Engine.cells(x, 2), 0, 0, 1, 2, 3, 4, 5, 6, 7, 8);
        Due.due("copy back", x.copy(Engine.view(x, 2, "::-1"), 2), 0);
        Due.due("turned over", Engine.cells(x, 2), 8, 7, 6, 5, 4, 3, 2, 1, 0, 0);
        int d = Engine.grid(x, 7, new int[] {10});
        Due.due("widened", x.copy(2, d), 0);
        Due.due("8.0", x.cell(d, 0), Engine.bits(8.0));
        Due.due("double to int", x.copy(d, 2), -1);
        int s = x.grid(4);
        x.axis(10);
        s = x.spread(s);
        Due.due("into a spread view", x.copy(2, s), -5);
        Due.due("into a spread view, wrong lane", x.copy(d, s), -1);
        Due.due("from a spread view", x.copy(s, 2), 0);
        Due.due("zeros", Engine.cells(x, 2), 0, 0, 0, 0, 0, 0, 0, 0, 0, 0);
        Due.due("other sizes", x.copy(1, 2), -3);
        Due.due("other number of axes", x.copy(Engine.view(x, 2, "*"), 2), -3);
        Due.due("other sizes into a spread view", x.copy(1, s), -5);
        Due.due("absent", x.copy(1, 99), -14);
        Due.due("absent", x.copy(99, 1), -14);
        int c = Engine.row(x, 3, 65535, 1, 2);
        int h = Engine.row(x, 2, 1, 2, 3);
        Due.due("char into short", x.copy(c, h), -1);
        Due.due("short into char", x.copy(h, c), -1);
        int b = Engine.row(x, 0, 1, 0, 1);
        int b2 = Engine.row(x, 0, 0, 0, 0);
        Due.due("booleans", x.copy(b, b2), 0);
        Due.due("booleans", Engine.cells(x, b2), 1, 0, 1);
        x.crash(0);
        Due.due("copy, closed", x.copy(1, 99), -13);
        GridEngine y = engine();
        shaped(y, 2, 10);
        y.at(2);
        y.put(2, 4, 77);
        int from = Engine.ints(y, 5, 6);
        int to = Engine.ints(y, 0, 0);
        y.copy(from, to);
        Due.due("just these cells are copied", y.cell(2, 2), 77);
    }

    /** A chain of random views against lists of places. */
    private static void randomView() {
        GridEngine x = new GridEngine();
        int axes = RANDOM.nextInt(4);
        int[] sizes = new int[axes];
        int many = 1;
        for (int k = 0; k < axes; k++) {
            sizes[k] = 1 + RANDOM.nextInt(5);
            many *= sizes[k];
        }
        long[] cells = new long[many];
        for (int n = 0; n < many; n++) {
            cells[n] = n;
        }
        int g = Engine.grid(x, 4, sizes, cells);
        for (int depth = 0; depth < 3; depth++) {
            StringBuilder text = new StringBuilder();
            List<List<Integer>> chosen = new ArrayList<>();
            List<Boolean> kept = new ArrayList<>();
            int axis = 0;
            int added = 0;
            int items = RANDOM.nextInt(axes + 2);
            for (int k = 0; k < items; k++) {
                boolean fresh = axis >= axes || RANDOM.nextInt(6) == 0 && axes + added < 4;
                if (fresh && axes + added >= 4) {
                    break;
                }
                text.append(k > 0 ? "," : "");
                if (fresh) {
                    text.append("*");
                    chosen.add(null);
                    kept.add(true);
                    added++;
                } else {
                    boolean one = RANDOM.nextInt(3) == 0 && sizes[axis] > 0;
                    List<Integer> places = new ArrayList<>();
                    text.append(one ? place(sizes[axis], places) : range(sizes[axis], places));
                    chosen.add(places);
                    kept.add(!one);
                    axis++;
                }
            }
            for (; axis < axes; axis++) {
                List<Integer> all = new ArrayList<>();
                for (int k = 0; k < sizes[axis]; k++) {
                    all.add(k);
                }
                chosen.add(all);
                kept.add(true);
            }
            List<Long> result = new ArrayList<>();
            walk(chosen, 0, sizes, 0, 0, cells, result);
            List<Integer> shape = new ArrayList<>();
            for (int k = 0; k < chosen.size(); k++) {
                if (kept.get(k)) {
                    shape.add(chosen.get(k) == null ? 1 : chosen.get(k).size());
                }
            }
            g = Engine.view(x, g, text.toString());
            sizes = shape.stream().mapToInt(k -> k).toArray();
            axes = sizes.length;
            cells = result.stream().mapToLong(k -> k).toArray();
            Due.due("view <" + text + ">", g > 0, true);
            Due.due("axes <" + text + ">", x.axes(g), axes);
            for (int k = 0; k < axes; k++) {
                Due.due("size <" + text + ">", x.size(g, k), sizes[k]);
            }
            Due.due("cells <" + text + ">", Engine.cells(x, g), cells);
        }
    }

    private static String place(int n, List<Integer> places) {
        int k = RANDOM.nextInt(n);
        places.add(k);
        return String.valueOf(RANDOM.nextBoolean() ? k : k - n);
    }

    /** As the languages with such ranges have them. */
    private static String range(int n, List<Integer> places) {
        Integer from = RANDOM.nextInt(3) == 0 ? null : RANDOM.nextInt(15) - 7;
        Integer to = RANDOM.nextInt(3) == 0 ? null : RANDOM.nextInt(15) - 7;
        Integer step = RANDOM.nextInt(2) == 0 ? null : RANDOM.nextBoolean() ? 1 + RANDOM.nextInt(4) : -1 - RANDOM.nextInt(4);
        int by = step == null ? 1 : step;
        int low = by > 0 ? 0 : -1;
        int high = by > 0 ? n : n - 1;
        int a = from == null ? (by > 0 ? 0 : n - 1) : Math.max(low, Math.min(high, from < 0 ? from + n : from));
        int b = to == null ? (by > 0 ? n : -1) : Math.max(low, Math.min(high, to < 0 ? to + n : to));
        for (int k = a; by > 0 ? k < b : k > b; k += by) {
            places.add(k);
        }
        String text = (from == null ? "" : from) + ":" + (to == null ? "" : to);
        return step == null ? text + (RANDOM.nextInt(4) == 0 ? ":" : "") : text + ":" + step;
    }

    private static void walk(List<List<Integer>> chosen, int k, int[] sizes, int axis, int spot, long[] cells, List<Long> result) {
        if (k == chosen.size()) {
            result.add(cells[spot]);
        } else if (chosen.get(k) == null) {
            walk(chosen, k + 1, sizes, axis, spot, cells, result);
        } else {
            for (int place : chosen.get(k)) {
                walk(chosen, k + 1, sizes, axis + 1, spot * sizes[axis] + place, cells, result);
            }
        }
    }
}
