/**
 * Terms 8 and 9: of several codes that a call could answer, the first in the document's order; what a refused call
 * uses up, and that it changes nothing else.
 */
final class CodesTest {
    private static final int NONE = 999;

    private CodesTest() {
    }

    public static void main(String[] args) {
        for (boolean full : new boolean[] {false, true}) {
            put(full);
            get(full);
            views(full);
            copies(full);
            casts(full);
            formulas(full);
            folds(full);
            orders(full);
            matrices(full);
            tables(full);
            bytesAndLog(full);
        }
        usedUpByRefusals();
        notUsedUpByOthers();
        trayIsUsedUp();
        Due.finish();
    }

    /** No room, where there would be some grid else. */
    private static int orNoRoom(boolean full, int otherwise) {
        return full ? -12 : otherwise;
    }

    private static int grid(GridEngine x, int lane, int... sizes) {
        for (int s : sizes) {
            x.axis(s);
        }
        return x.grid(lane);
    }

    /** Takes all numbers of grids that are left. */
    private static void fill(GridEngine x, boolean full) {
        while (full && x.lane(400) < 0) {
            x.view(1);
        }
    }

    private static int put(GridEngine x, int g, int lane, long bits, int... spot) {
        for (int i : spot) {
            x.at(i);
        }
        return x.put(g, lane, bits);
    }

    private static void put(boolean full) {
        GridEngine x = new GridEngine();
        int g = grid(x, 4, 2);
        x.axis(2);
        int s = x.spread(g);
        fill(x, full);
        Refused.due(x, "no grid, no lane", () -> put(x, NONE, 9, 5, 9), -14);
        Refused.due(x, "no lane, wrong bits, spread, no spot", () -> put(x, s, 9, 1L << 40, 9), -14);
        Refused.due(x, "wrong bits, spread, no spot", () -> put(x, s, 4, 1L << 40, 9), -1);
        Refused.due(x, "a lane that does not fit, spread, no spot", () -> put(x, s, 5, 1, 9), -1);
        Refused.due(x, "too many indexes, spread, no spot", () -> put(x, s, 4, 1, 9, 9), -1);
        Refused.due(x, "no indexes, spread", () -> put(x, s, 4, 1), -1);
        Refused.due(x, "spread, no spot", () -> put(x, s, 4, 1, 9), -5);
        Refused.due(x, "no spot", () -> put(x, g, 4, 1, 9), -2);
        Due.due("fine", put(x, g, 4, 1, 1), 0);
        Due.due("it shows", x.cell(s, 1), 1);
    }

    private static void get(boolean full) {
        GridEngine x = new GridEngine();
        int g = grid(x, 4, 2);
        fill(x, full);
        int[][] spots = {{9, 9}, {}, {9}, {-1}, {1}};
        int[] codes = {1, 1, 2, 2, 0};
        for (int k = 0; k < codes.length; k++) {
            for (int i : spots[k]) {
                x.at(i);
            }
            Due.due("get", x.get(g), 0);
            Due.due("code()", x.code(), codes[k]);
        }
        x.at(9);
        Due.due("get of none", x.get(NONE), 0);
        Due.due("code()", x.code(), 14);
        Due.due("cell of none", x.cell(NONE, 99), 0);
        Due.due("code()", x.code(), 14);
        Due.due("no cell", x.cell(g, 99), 0);
        Due.due("code()", x.code(), 2);
    }

    private static int sized(GridEngine x, boolean spread, int g, int... sizes) {
        for (int s : sizes) {
            x.axis(s);
        }
        return spread ? x.spread(g) : x.shaped(g);
    }

    private static void views(boolean full) {
        GridEngine x = new GridEngine();
        int g = grid(x, 4, 2);
        fill(x, full);
        Refused.due(x, "view: no grid, a fault", () -> Engine.view(x, NONE, "$"), -14);
        Due.due("place()", x.place(), -1);
        Refused.due(x, "view: a fault", () -> Engine.view(x, g, "9"), -20);
        Due.due("place()", x.place(), 0);
        Due.due("view", Engine.view(x, g, "1"), orNoRoom(full, 2));
        Due.due("place()", x.place(), full ? 0 : -1);
        Refused.due(x, "turned: no grid, no axis", () -> x.turned(NONE, 9, 9), -14);
        Refused.due(x, "turned: no axis", () -> x.turned(g, 0, 9), -2);
        Due.due("turned", x.turned(g, 0, 0), orNoRoom(full, 3));
        Refused.due(x, "spread: no grid, wrong sizes, too many cells", () -> sized(x, true, NONE, 4096, 4096, 3), -14);
        Refused.due(x, "spread: wrong sizes, too many cells", () -> sized(x, true, g, 4096, 4096, 3), -3);
        Refused.due(x, "spread: too many cells", () -> sized(x, true, g, 4096, 4096, 2), -12);
        Due.due("spread", sized(x, true, g, 3, 2), orNoRoom(full, 4));
        Refused.due(x, "shaped: no grid, wrong sizes", () -> sized(x, false, NONE, 3), -14);
        Refused.due(x, "shaped: wrong sizes", () -> sized(x, false, g, 3), -3);
        Due.due("shaped", sized(x, false, g, 1, 2), orNoRoom(full, 5));
        Refused.due(x, "grid: no lane, too many cells", () -> grid(x, 8, 4096, 4096), -14);
        Refused.due(x, "grid: too many cells", () -> grid(x, 7, 4096, 4096), -12);
        Due.due("grid", grid(x, 7), orNoRoom(full, 6));
        Refused.due(x, "shares: no second", () -> x.shares(g, NONE), -14);
        Due.due("shares", x.shares(g, g), 1);
    }

    private static void copies(boolean full) {
        GridEngine x = new GridEngine();
        int i = grid(x, 4, 2);
        int l = grid(x, 5, 3);
        x.axis(2);
        int s = x.spread(i);
        fill(x, full);
        Refused.due(x, "no grid, wrong lane", () -> x.copy(l, NONE), -14);
        Refused.due(x, "no grid", () -> x.copy(NONE, s), -14);
        Refused.due(x, "wrong lane, spread, other sizes", () -> x.copy(l, s), -1);
        Refused.due(x, "wrong lane, other sizes", () -> x.copy(l, i), -1);
        int other = full ? 0 : Engine.ints(x, 1, 2, 3);
        if (!full) {
            Refused.due(x, "spread, other sizes", () -> x.copy(other, s), -5);
        }
        Refused.due(x, "spread", () -> x.copy(i, s), -5);
        Refused.due(x, "other sizes", () -> x.copy(i, l), -3);
        Due.due("copy needs no room", x.copy(s, i), 0);
    }

    private static void casts(boolean full) {
        GridEngine x = new GridEngine();
        int i = Engine.ints(x, 1, 300);
        int b = grid(x, 0, 2);
        fill(x, full);
        Refused.due(x, "no grid", () -> x.cast(NONE, 4, 0), -14);
        Refused.due(x, "no lane, a boolean", () -> x.cast(b, 8, 0), -14);
        Refused.due(x, "no rule, a boolean", () -> x.cast(b, 4, 4), -14);
        Refused.due(x, "a boolean", () -> x.cast(b, 4, 2), -1);
        Refused.due(x, "to boolean, not exact", () -> x.cast(i, 0, 2), -1);
        Refused.due(x, "not exact", () -> x.cast(i, 1, 2), -8);
        Due.due("failed(0)", x.failed(0), 1);
        Due.due("cast", x.cast(i, 1, 0), orNoRoom(full, 3));
        Due.due("failed(0)", x.failed(0), -1);
    }

    private static void formulas(boolean full) {
        GridEngine x = new GridEngine();
        int a = Engine.ints(x, 1, 0);
        int b = Engine.ints(x, 1, 0, 2);
        int c = grid(x, 1, 4096, 1);
        int d = grid(x, 1, 1, 4096);
        int[] bound = {a, b, c, d};
        for (int n = 0; n < 4; n++) {
            x.bind(n, bound[n]);
        }
        fill(x, full);
        Refused.due(x, "fault 1, fault 2, sizes", () -> Engine.formula(x, "a + b + true +"), -21);
        Refused.due(x, "fault 2, sizes", () -> Engine.formula(x, "a + b + true"), -22);
        Refused.due(x, "not bound, sizes", () -> Engine.formula(x, "a + b + e"), -22);
        Refused.due(x, "sizes, too many cells", () -> Engine.formula(x, "1 / 0 + a + b + c + d"), -3);
        Refused.due(x, "too many cells, fails", () -> Engine.formula(x, "1 / 0 + c + d"), -12);
        Due.due("failed(0)", x.failed(0), -1);
        Refused.due(x, "fails", () -> Engine.formula(x, "1 / a"), -8);
        Due.due("failed(0)", x.failed(0), 1);
        Due.due("formula", Engine.formula(x, "a + 1"), orNoRoom(full, 5));
        Due.due("failed(0)", x.failed(0), -1);
        Due.due("steps()", x.steps(), 2);
        Due.due("functions need no room", Engine.functions(x, "int f(int x) = x;"), 1);
        Refused.due(x, "bind: no grid, no operand", () -> x.bind(8, NONE), -14);
        Refused.due(x, "bind: no operand", () -> x.bind(8, a), -2);
    }

    private static void folds(boolean full) {
        GridEngine x = new GridEngine();
        int i = Engine.ints(x, Integer.MAX_VALUE, 1);
        int b = grid(x, 0, 2);
        int none = grid(x, 4, 0, 400, 251);
        fill(x, full);
        Refused.due(x, "no grid, no way", () -> x.fold(NONE, 9, -9), -14);
        Refused.due(x, "no way, no axis", () -> x.fold(b, 9, 9), -14);
        Refused.due(x, "axis below -1, wrong lane", () -> x.fold(b, 0, -2), -14);
        Refused.due(x, "wrong lane, no axis", () -> x.fold(b, 0, 9), -1);
        Refused.due(x, "no axis", () -> x.fold(i, 1, 9), -2);
        Refused.due(x, "no axis, none", () -> x.fold(none, 3, 9), -2);
        Refused.due(x, "of none, too many cells", () -> x.fold(none, 4, 0), -4);
        Refused.due(x, "too many cells", () -> x.fold(none, 0, 0), -12);
        Refused.due(x, "does not fit", () -> x.fold(i, 1, 0), -8);
        Due.due("fold", x.fold(i, 0, 0), orNoRoom(full, 4));
        Refused.due(x, "running: no way, no axis", () -> x.running(b, 5, 9), -14);
        Refused.due(x, "running: wrong lane, no axis", () -> x.running(b, 0, 9), -1);
        Refused.due(x, "running: no axis", () -> x.running(i, 1, 9), -2);
        Refused.due(x, "running: does not fit", () -> x.running(i, 1, 0), -8);
        Due.due("running", x.running(i, 0, 0), orNoRoom(full, 5));
    }

    private static void orders(boolean full) {
        GridEngine x = new GridEngine();
        int i = Engine.ints(x, Integer.MAX_VALUE, 1);
        int same = Engine.ints(x, 7, 7);
        int three = Engine.ints(x, 1, 2, 3);
        int b = grid(x, 0, 2);
        int two = grid(x, 4, 2, 1);
        int many = grid(x, 4, 65);
        fill(x, full);
        Refused.due(x, "sorted: no grid", () -> x.sorted(NONE, false), -14);
        Refused.due(x, "sorted: two axes", () -> x.sorted(two, false), -1);
        Due.due("sorted", x.sorted(i, false), orNoRoom(full, 7));
        Refused.due(x, "search: no grid, wrong bits", () -> x.search(NONE, -5), -14);
        Refused.due(x, "search: wrong bits", () -> x.search(b, 5), -1);
        Due.due("search needs no room", x.search(i, 2), 1);
        Refused.due(x, "groups: no grid, no way", () -> x.groups(NONE, i, 9), -14);
        Refused.due(x, "groups: no way, wrong lane", () -> x.groups(i, b, 9), -14);
        Refused.due(x, "groups: wrong lane, unlike sizes", () -> x.groups(three, b, 1), -1);
        Refused.due(x, "groups: two axes, unlike sizes", () -> x.groups(three, two, 1), -1);
        Refused.due(x, "groups: unlike sizes, does not fit", () -> x.groups(three, i, 1), -3);
        Refused.due(x, "groups: does not fit", () -> x.groups(same, i, 1), -8);
        Due.due("groups", x.groups(i, i, 1), orNoRoom(full, 8));
        Refused.due(x, "join: no grid, unlike lanes", () -> x.join(b, NONE), -14);
        Refused.due(x, "join: unlike lanes", () -> x.join(b, i), -1);
        Refused.due(x, "join: two axes, too many pairs", () -> x.join(many, two), -1);
        Refused.due(x, "join: too many pairs", () -> x.join(many, many), -12);
        Due.due("join", x.join(i, i), orNoRoom(full, 10));
    }

    private static void matrices(boolean full) {
        GridEngine x = new GridEngine();
        int d = Engine.grid(x, 7, new int[] {1, 1}, Engine.bits(Double.POSITIVE_INFINITY));
        int zero = grid(x, 7, 1, 1);
        int b = grid(x, 0, 3, 3);
        int wide = grid(x, 7, 101, 100);
        int tall = grid(x, 7, 100, 101);
        int row = Engine.ints(x, 1, 2);
        int singular = Engine.grid(x, 4, new int[] {2, 2}, 1, 1, 1, 1);
        int fine = Engine.grid(x, 4, new int[] {2, 2}, 1, 1, 0, 1);
        int longs = grid(x, 5, 2, 2);
        int odd = grid(x, 4, 2, 3);
        fill(x, full);
        Refused.due(x, "product: no grid, a boolean", () -> x.product(b, NONE), -14);
        Refused.due(x, "product: a boolean, unlike sizes", () -> x.product(b, d), -1);
        Refused.due(x, "product: one axis, unlike sizes", () -> x.product(d, row), -1);
        Refused.due(x, "product: unlike sizes, too many products", () -> x.product(wide, wide), -3);
        Refused.due(x, "product: too many products", () -> x.product(wide, tall), -12);
        Refused.due(x, "product: no number", () -> x.product(d, zero), -8);
        Due.due("failed(0)", x.failed(0), 0);
        Due.due("product", x.product(zero, zero), orNoRoom(full, 11));
        Due.due("failed(0)", x.failed(0), -1);
        Refused.due(x, "solve: no grid, wrong lane", () -> x.solve(longs, NONE), -14);
        Refused.due(x, "solve: wrong lane, unlike sizes", () -> x.solve(wide, row), -1);
        Refused.due(x, "solve: two axes, not square", () -> x.solve(odd, odd), -1);
        Refused.due(x, "solve: n 100, not square", () -> x.solve(tall, row), -1);
        Refused.due(x, "solve: not square", () -> x.solve(odd, row), -3);
        Refused.due(x, "solve: not just one", () -> x.solve(singular, row), -6);
        Due.due("solve", x.solve(fine, row), orNoRoom(full, 12));
        Refused.due(x, "residues: no grid, no prime", () -> x.residues(NONE, 4, false), -14);
        Refused.due(x, "residues: no prime", () -> x.residues(row, 4, false), -1);
        Due.due("residues", x.residues(row, 5, false), orNoRoom(full, 14));
    }

    private static void tables(boolean full) {
        GridEngine x = new GridEngine();
        Engine.table(x, "a\n1\n");
        int i = Engine.ints(x, 0);
        int beyond = Engine.ints(x, 1);
        int l = Engine.row(x, 5, 1);
        for (int n = 2; full && n <= 40; n++) {
            Engine.table(x, "a\n1\n");
        }
        fill(x, full);
        Refused.due(x, "table: a fault", () -> Engine.table(x, "a"), -20);
        Due.due("table", Engine.table(x, "a\n"), orNoRoom(full, 2));
        Refused.due(x, "named: no table", () -> Engine.named(x, NONE, "a"), -14);
        Refused.due(x, "named: no name", () -> Engine.named(x, 1, "b"), -14);
        Due.due("named needs no room", Engine.named(x, 1, "a"), 0);
        Refused.due(x, "column: no table, no column", () -> x.column(NONE, 9), -14);
        Refused.due(x, "column: no column", () -> x.column(1, 9), -2);
        Due.due("column", x.column(1, 0), orNoRoom(full, 4));
        Refused.due(x, "missing: no table, no column", () -> x.missing(NONE, 9), -14);
        Refused.due(x, "missing: no column", () -> x.missing(1, 9), -2);
        Due.due("missing", x.missing(1, 0), orNoRoom(full, 5));
        Refused.due(x, "columnLane: no table, no column", () -> x.columnLane(NONE, 9), -14);
        Refused.due(x, "pick: no table", () -> x.pick(NONE, i), -14);
        Refused.due(x, "pick: no grid", () -> x.pick(1, NONE), -14);
        Refused.due(x, "pick: wrong lane, no row", () -> x.pick(1, l), -1);
        Refused.due(x, "pick: no row", () -> x.pick(1, beyond), -2);
        Due.due("pick", x.pick(1, i), orNoRoom(full, 3));
        Due.due("write needs no room", x.write(1), 4);
    }

    private static void bytesAndLog(boolean full) {
        GridEngine x = new GridEngine();
        int g = x.grid(0);
        int big = grid(x, 7, 3800);
        fill(x, full);
        Due.due("bytes", x.bytes(g), 9);
        byte[] bytes = Engine.written(x, 9);
        Refused.due(x, "bytes: no grid", () -> x.bytes(NONE), -14);
        Refused.due(x, "bytes: too many", () -> x.bytes(big), -12);
        Refused.due(x, "read: a fault", () -> {
            Engine.feed(x, "GR");
            return x.read();
        }, -20);
        Engine.feed(x, bytes);
        Due.due("read", x.read(), orNoRoom(full, 3));
        Due.due("place()", x.place(), full ? 0 : -1);
        Refused.due(x, "keep: no grid, no name", () -> Engine.keep(x, NONE, ""), -14);
        Refused.due(x, "keep: no name, too many bytes", () -> Engine.keep(x, big, ""), -1);
        Refused.due(x, "keep: too many bytes", () -> Engine.keep(x, big, "a"), -12);
        Due.due("keep needs no room for grids", Engine.keep(x, g, "a"), 23);
        Refused.due(x, "open: none", () -> Engine.open(x, "b"), -14);
        Due.due("open", Engine.open(x, "a"), orNoRoom(full, 4));
    }

    /** Sizes and indexes are used up by the calls that need them, whatever they answer. */
    private static void usedUpByRefusals() {
        GridEngine x = new GridEngine();
        int g = grid(x, 4, 2);
        x.axis(3);
        Due.due("grid of no lane", x.grid(9), -14);
        Due.due("sizes", x.axis(3), 1);
        Due.due("spread of no grid", x.spread(NONE), -14);
        Due.due("sizes", x.axis(3), 1);
        Due.due("spread of other sizes", x.spread(g), -3);
        Due.due("sizes", x.axis(3), 1);
        Due.due("shaped of no grid", x.shaped(NONE), -14);
        Due.due("sizes", x.axis(3), 1);
        Due.due("shaped of other sizes", x.shaped(g), -3);
        Due.due("sizes", x.axis(9), 1);
        Due.due("choose of no lane", x.choose(), -14);
        Due.due("sizes", x.axis(4096), 1);
        x.axis(4096);
        Due.due("grid without room", x.grid(4), -12);
        Due.due("sizes", x.axis(2), 1);
        Due.due("spread", x.spread(g), 2);
        Due.due("sizes", x.axis(2), 1);
        Due.due("shaped", x.shaped(g), 3);
        Due.due("sizes", x.axis(4), 1);
        Due.due("choose", x.choose(), -15);
        Due.due("sizes", x.axis(1), 1);
        x.at(1);
        Due.due("put into no grid", x.put(NONE, 4, 1), -14);
        Due.due("indexes", x.at(1), 1);
        Due.due("put of no lane", x.put(g, 9, 1), -14);
        Due.due("indexes", x.at(1), 1);
        Due.due("put of wrong bits", x.put(g, 4, 1L << 40), -1);
        Due.due("indexes", x.at(1), 1);
        Due.due("put into a spread view", x.put(2, 4, 1), -5);
        Due.due("indexes", x.at(9), 1);
        Due.due("put at no spot", x.put(g, 4, 1), -2);
        Due.due("indexes", x.at(1), 1);
        Due.due("put", x.put(g, 4, 1), 0);
        Due.due("indexes", x.at(9), 1);
        Due.due("get at no spot", x.get(g), 0);
        Due.due("indexes", x.at(1), 1);
        Due.due("get of no grid", x.get(NONE), 0);
        Due.due("indexes", x.at(1), 1);
    }

    /** All other calls leave what was collected. */
    private static void notUsedUpByOthers() {
        GridEngine x = new GridEngine();
        int g = Engine.ints(x, 1, 2);
        Engine.table(x, "a\n1\n");
        x.axis(2);
        x.at(1);
        x.cell(g, 0);
        x.code();
        x.lane(g);
        x.axes(g);
        x.size(g, 0);
        x.cells(g);
        x.view(g);
        x.place();
        x.turned(g, 0, 0);
        x.shares(g, g);
        x.copy(g, g);
        x.cast(g, 5, 0);
        x.functions();
        x.bind(0, g);
        x.formula();
        x.failed(0);
        x.steps();
        x.fold(g, 0, 0);
        x.running(g, 0, 0);
        x.sorted(g, true);
        x.search(g, 1);
        x.groups(g, g, 0);
        x.join(g, g);
        x.product(g, g);
        x.solve(g, g);
        x.residues(g, 3, false);
        x.table();
        x.rows(1);
        x.named(1);
        x.columnLane(1, 0);
        x.column(1, 0);
        x.missing(1, 0);
        x.pick(1, g);
        x.write(1);
        x.bytes(g);
        x.out(0);
        x.read();
        x.keep(g);
        x.open();
        x.logged();
        x.poke(0, 0);
        x.reopen();
        x.end(0);
        Due.due("the index is there", x.get(g), 2);
        Due.due("code()", x.code(), 0);
        Due.due("the size is there", Engine.shape(x, x.shaped(g)), "2");
    }

    private static void tray(String call, GridEngine x, Runnable made, boolean usesUp) {
        x.end(0);
        x.feed(0x20202020, 0, 0, 0, 0);
        x.end(4);
        made.run();
        Due.due("the tray behind " + call, x.end(4), usesUp ? -1 : 4);
    }

    /** Each call that reads the tray uses it up, also if it is refused; others leave it. */
    private static void trayIsUsedUp() {
        GridEngine x = new GridEngine();
        int g = Engine.ints(x, 1, 2);
        Engine.table(x, "a\n1\n");
        tray("view", x, () -> x.view(g), true);
        tray("view of no grid", x, () -> x.view(NONE), true);
        tray("functions", x, () -> x.functions(), true);
        tray("formula", x, () -> x.formula(), true);
        tray("choose without lanes", x, () -> x.choose(), true);
        tray("table", x, () -> x.table(), true);
        tray("named", x, () -> x.named(1), true);
        tray("named of no table", x, () -> x.named(NONE), true);
        tray("read", x, () -> x.read(), true);
        tray("keep", x, () -> x.keep(g), true);
        tray("keep of no grid", x, () -> x.keep(NONE), true);
        tray("open", x, () -> x.open(), true);
        tray("write", x, () -> x.write(1), false);
        tray("bytes", x, () -> x.bytes(g), false);
        tray("pick", x, () -> x.pick(1, g), false);
        tray("column", x, () -> x.column(1, 0), false);
        tray("cast", x, () -> x.cast(g, 4, 0), false);
        tray("fold", x, () -> x.fold(g, 0, 0), false);
        tray("end beyond", x, () -> x.end(5), false);
        tray("bind", x, () -> x.bind(0, g), false);
        tray("crash", x, () -> x.crash(0), false);
        tray("view, closed", x, () -> x.view(g), false);
        tray("functions, closed", x, () -> x.functions(), false);
        tray("formula, closed", x, () -> x.formula(), false);
        tray("choose, closed", x, () -> x.choose(), false);
        tray("table, closed", x, () -> x.table(), false);
        tray("named, closed", x, () -> x.named(1), false);
        tray("read, closed", x, () -> x.read(), false);
        tray("keep, closed", x, () -> x.keep(g), false);
        tray("open, closed", x, () -> x.open(), false);
        tray("reopen", x, () -> x.reopen(), false);
    }
}
