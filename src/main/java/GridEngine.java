import java.util.Arrays;

/**
 * An engine for grids of numbers. Every call answers a number; none throws.
 * Values are kept as bits in longs, and floating arithmetic is worked out on
 * those bits, so that no not-a-number can ever come into being unseen.
 */
public final class GridEngine {
    private static final int BOOLEAN = 0;
    private static final int BYTE = 1;
    private static final int SHORT = 2;
    private static final int CHAR = 3;
    private static final int INT = 4;
    private static final int LONG = 5;
    private static final int FLOAT = 6;
    private static final int DOUBLE = 7;
    private static final int TEXT = 8;

    private static final int UNFIT = 1;
    private static final int NO_SPOT = 2;
    private static final int SIZES = 3;
    private static final int OF_NONE = 4;
    private static final int IS_SPREAD = 5;
    private static final int NOT_ONE = 6;
    private static final int FAILS = 8;
    private static final int TOO_LONG = 10;
    private static final int NO_ROOM = 12;
    private static final int SHUT = 13;
    private static final int ABSENT = 14;
    private static final int FITS_NONE = 15;
    private static final int UNCLEAR = 16;
    private static final int FAULT = 20;
    private static final int FAULT_1 = 21;
    private static final int FAULT_2 = 22;

    private static final int TRAY_MOST = 16000;
    private static final int FED_MOST = 65536;
    private static final int AXES_MOST = 4;
    private static final int SIZE_MOST = 4096;
    private static final int CELLS_MOST = 100000;
    private static final int GRIDS_MOST = 400;
    private static final int TABLES_MOST = 40;
    private static final int WRITTEN_MOST = 30000;
    private static final int NAME_MOST = 20;

    // The signs of formulas: a sign's place in SIGNS is its code, for tokens and for instructions.
    private static final String SIGNS =
        "(  )  ,  =  ;  ?  :  ~  !  |  ^  &  <  >  +  -  *  /  %  || && == != <= >= << >> >>>";
    private static final int OPEN = 0;
    private static final int CLOSE = 1;
    private static final int COMMA = 2;
    private static final int SET = 3;
    private static final int SEMICOLON = 4;
    private static final int ASK = 5;
    private static final int COLON = 6;
    private static final int INVERT = 7;
    private static final int NOT = 8;
    private static final int BIT_OR = 9;
    private static final int BIT_XOR = 10;
    private static final int BIT_AND = 11;
    private static final int LESS = 12;
    private static final int MORE = 13;
    private static final int ADD = 14;
    private static final int SUBTRACT = 15;
    private static final int MULTIPLY = 16;
    private static final int DIVIDE = 17;
    private static final int REST = 18;
    private static final int EITHER = 19;
    private static final int BOTH = 20;
    private static final int EQUAL = 21;
    private static final int UNLIKE = 22;
    private static final int AT_MOST = 23;
    private static final int AT_LEAST = 24;
    private static final int LEFT = 25;
    private static final int RIGHT = 26;
    private static final int RIGHT_EMPTY = 27;
    // How tightly each sign binds between two operands; 0: it never stands there.
    private static final int[] LEVELS = {
        0, 0, 0, 0, 0, 0, 0, 0, 0, 3, 4, 5, 7, 7, 9, 9, 10, 10, 10, 1, 2, 6, 6, 7, 7, 8, 8, 8
    };

    private static final int NUMBER = 32;
    private static final int NAME = 33;
    private static final int OF_GRID = 34;
    private static final int OF_INDEX = 35;
    private static final int PARAMETER = 36;
    private static final int NEGATE = 37;
    private static final int CASTING = 38;
    private static final int TEST = 39;
    private static final int CHOSEN = 40;
    private static final int CALL = 41;
    private static final int BUILT_IN = 42;
    private static final int RETURN = 43;
    private static final int HALT = 44;
    private static final int LANE_WORD = 45;
    private static final int TEXT_END = 46;
    private static final int NO_TOKEN = 47;

    private static final String WORDS = "boolean byte short char int long float double true false";
    private static final String BUILT_INS =
        "abs sign min max floordiv floormod addexact subexact mulexact bits high sqrt floor ceil round";
    private static final int ABS = 0;
    private static final int SIGN_OF = 1;
    private static final int MIN_OF = 2;
    private static final int MAX_OF = 3;
    private static final int FLOOR_DIV = 4;
    private static final int FLOOR_MOD = 5;
    private static final int ADD_EXACT = 6;
    private static final int SUB_EXACT = 7;
    private static final int MUL_EXACT = 8;
    private static final int BITS_OF = 9;
    private static final int HIGH_OF = 10;
    private static final int ROOT_OF = 11;
    private static final int FLOOR_OF = 12;
    private static final int CEIL_OF = 13;
    private static final int ROUND_OF = 14;

    private static final int FUNCTIONS_MOST = 40;
    private static final int PARAMETERS_MOST = 6;
    private static final int LETTERS_MOST = 12;

    private final byte[] tray = new byte[TRAY_MOST];
    private int trayLength;
    private int fed;
    private final int[] sizes = new int[AXES_MOST];
    private int sizeCount;
    private final int[] indexes = new int[AXES_MOST];
    private int indexCount;
    private int latestCode;
    private int latestPlace = -1;
    private final byte[] written = new byte[WRITTEN_MOST];
    private int writtenLength;
    private final Numbers numbers = new Numbers();
    private final Store store = new Store();
    private final Slicer slicer = new Slicer();
    private final Program program = new Program();
    private final Compiler compiler = new Compiler(program);
    private final Machine machine = new Machine(program, store, numbers);
    private final Folds folds = new Folds(store, numbers);
    private final Matrices matrices = new Matrices(store, numbers);
    private final Tables tables = new Tables(store);
    private final Log log = new Log(store);

    public GridEngine() {
    }

    public int feed(int a, int b, int c, int d, int e) {
        if (trayLength + 20 > TRAY_MOST || fed + 20 > FED_MOST) {
            return -1;
        }
        feedFour(a);
        feedFour(b);
        feedFour(c);
        feedFour(d);
        feedFour(e);
        fed += 20;
        return trayLength;
    }

    private void feedFour(int word) {
        for (int shift = 24; shift >= 0; shift -= 8) {
            tray[trayLength] = (byte) (word >> shift);
            trayLength++;
        }
    }

    public int end(int n) {
        if (n < 0 || n > trayLength) {
            return -1;
        }
        trayLength = n;
        return n;
    }

    public int axis(int n) {
        if (n < 0 || n > SIZE_MOST || sizeCount >= AXES_MOST) {
            return -1;
        }
        sizes[sizeCount] = n;
        sizeCount++;
        return sizeCount;
    }

    public int at(int i) {
        if (indexCount >= AXES_MOST) {
            return -1;
        }
        indexes[indexCount] = i;
        indexCount++;
        return indexCount;
    }

    /** What the tray has, which is used up by that: its bytes stay until the next feed(). */
    private int takeTray() {
        int length = trayLength;
        trayLength = 0;
        return length;
    }

    private int takeIndexes() {
        int count = indexCount;
        indexCount = 0;
        return count;
    }

    private int takeSizes() {
        int count = sizeCount;
        sizeCount = 0;
        return count;
    }

    public int grid(int lane) {
        int count = takeSizes();
        if (log.closed) {
            return -SHUT;
        }
        if (!Numbers.isLane(lane)) {
            return -ABSENT;
        }
        store.shapeBy(sizes, count);
        return store.addEmpty(lane);
    }

    public int put(int g, int lane, long bits) {
        int count = takeIndexes();
        if (log.closed) {
            return -SHUT;
        }
        Grid grid = store.find(g);
        if (grid == null || !Numbers.isLane(lane)) {
            return -ABSENT;
        }
        if (!Numbers.holds(lane, bits) || !Numbers.fits(lane, grid.lane) || count != grid.axes) {
            return -UNFIT;
        }
        if (grid.spread) {
            return -IS_SPREAD;
        }
        int spot = grid.spotOf(indexes, count);
        if (spot < 0) {
            return -NO_SPOT;
        }
        store.cells[spot] = Numbers.widened(lane, grid.lane, bits);
        return 0;
    }

    public long get(int g) {
        int count = takeIndexes();
        Grid grid = store.find(g);
        if (log.closed) {
            return refusedBits(SHUT);
        }
        if (grid == null) {
            return refusedBits(ABSENT);
        }
        if (count != grid.axes) {
            return refusedBits(UNFIT);
        }
        int spot = grid.spotOf(indexes, count);
        if (spot < 0) {
            return refusedBits(NO_SPOT);
        }
        latestCode = 0;
        return store.cells[spot];
    }

    private long refusedBits(int why) {
        latestCode = why;
        return 0;
    }

    public long cell(int g, int n) {
        Grid grid = store.find(g);
        if (log.closed) {
            return refusedBits(SHUT);
        }
        if (grid == null) {
            return refusedBits(ABSENT);
        }
        if (n < 0 || n >= grid.count) {
            return refusedBits(NO_SPOT);
        }
        latestCode = 0;
        return store.cells[grid.spotOfCell(n)];
    }

    public int code() {
        return latestCode;
    }

    /** 0 if the grid is there, else the refusal. */
    private int refusal(int g) {
        if (log.closed) {
            return -SHUT;
        }
        return store.find(g) == null ? -ABSENT : 0;
    }

    private int refusal(int g, int h) {
        int first = refusal(g);
        return first != 0 ? first : refusal(h);
    }

    public int lane(int g) {
        Grid grid = store.find(g);
        return log.closed || grid == null ? refusal(g) : grid.lane;
    }

    public int axes(int g) {
        Grid grid = store.find(g);
        return log.closed || grid == null ? refusal(g) : grid.axes;
    }

    public int size(int g, int axis) {
        Grid grid = store.find(g);
        if (log.closed || grid == null) {
            return refusal(g);
        }
        return grid.hasAxis(axis) ? grid.size[grid.position(axis)] : -NO_SPOT;
    }

    public int cells(int g) {
        Grid grid = store.find(g);
        return log.closed || grid == null ? refusal(g) : grid.count;
    }

    public int view(int g) {
        if (log.closed) {
            return -SHUT;
        }
        int length = takeTray();
        Grid grid = store.find(g);
        if (grid == null) {
            return -ABSENT;
        }
        Grid made = slicer.sliced(grid, tray, length);
        if (made == null) {
            latestPlace = slicer.faultAt;
            return -FAULT;
        }
        int answer = store.addView(made);
        if (answer > 0) {
            latestPlace = -1;
        }
        return answer;
    }

    public int place() {
        return latestPlace;
    }

    public int turned(int g, int a, int b) {
        Grid grid = store.find(g);
        if (log.closed || grid == null) {
            return refusal(g);
        }
        if (!grid.hasAxis(a) || !grid.hasAxis(b)) {
            return -NO_SPOT;
        }
        return store.addView(grid.exchanged(grid.position(a), grid.position(b)));
    }

    public int spread(int g) {
        int count = takeSizes();
        Grid grid = store.find(g);
        if (log.closed || grid == null) {
            return refusal(g);
        }
        store.shapeBy(sizes, count);
        return store.addSpread(grid);
    }

    public int shaped(int g) {
        int count = takeSizes();
        Grid grid = store.find(g);
        if (log.closed || grid == null) {
            return refusal(g);
        }
        store.shapeBy(sizes, count);
        if (store.shapeCells() != grid.count) {
            return -SIZES;
        }
        store.valuesToWork(grid);
        return store.addFromWork(grid.lane, 0);
    }

    public int shares(int g, int h) {
        Grid first = store.find(g);
        Grid second = store.find(h);
        if (log.closed || first == null || second == null) {
            return refusal(g, h);
        }
        return store.meet(first, second) ? 1 : 0;
    }

    public int copy(int g, int h) {
        Grid source = store.find(g);
        Grid target = store.find(h);
        if (log.closed || source == null || target == null) {
            return refusal(g, h);
        }
        if (!Numbers.fits(source.lane, target.lane)) {
            return -UNFIT;
        }
        if (target.spread) {
            return -IS_SPREAD;
        }
        if (!source.isShapedLike(target)) {
            return -SIZES;
        }
        store.copyCells(source, target);
        return 0;
    }

    public int cast(int g, int lane, int rule) {
        store.failedAxes = -1;
        Grid grid = store.find(g);
        if (log.closed || grid == null) {
            return refusal(g);
        }
        if (!Numbers.isLane(lane) || rule < 0 || rule > 3) {
            return -ABSENT;
        }
        if ((grid.lane == BOOLEAN) != (lane == BOOLEAN)) {
            return -UNFIT;
        }
        store.shapeLike(grid);
        store.valuesToWork(grid);
        numbers.bad = false;
        for (int n = 0; n < grid.count; n++) {
            store.work[n] = numbers.castBy(grid.lane, lane, rule, store.work[n]);
            if (numbers.bad) {
                store.failAt(n);
                return -FAILS;
            }
        }
        return store.addFromWork(lane, 0);
    }

    public int functions() {
        if (log.closed) {
            return -SHUT;
        }
        int fault = compiler.takeFunctions(tray, takeTray());
        latestPlace = fault == 0 ? -1 : compiler.faultAt;
        return fault == 0 ? program.count : -fault;
    }

    public int bind(int n, int g) {
        if (log.closed) {
            return -SHUT;
        }
        Grid grid = store.find(g);
        if (grid == null && g != 0) {
            return -ABSENT;
        }
        if (n < 0 || n >= machine.bound.length) {
            return -NO_SPOT;
        }
        machine.bound[n] = grid;
        return 0;
    }

    public int formula() {
        store.failedAxes = -1;
        if (log.closed) {
            return -SHUT;
        }
        int mark = program.length;
        int fault = compiler.takeFormula(tray, takeTray(), machine.bound);
        int answer = -fault;
        if (fault != 0) {
            latestPlace = compiler.faultAt;
        } else {
            answer = machine.run(mark, compiler.usedGrids, compiler.formulaLane);
        }
        if (answer > 0) {
            latestPlace = -1;
        }
        program.length = mark;
        return answer;
    }

    public int choose() {
        int count = takeSizes();
        if (log.closed) {
            return -SHUT;
        }
        int length = takeTray();
        long lanes = 0;
        for (int k = 0; k < count; k++) {
            if (!Numbers.isLane(sizes[k])) {
                return -ABSENT;
            }
            lanes |= (long) sizes[k] << (4 * k);
        }
        if (count == 0) {
            return -ABSENT;
        }
        return program.choice(tray, 0, length, lanes, count, program.count);
    }

    public int failed(int n) {
        if (n < 0 || n >= store.failedAxes) {
            return -1;
        }
        return store.failedSpot[AXES_MOST - store.failedAxes + n];
    }

    public int steps() {
        return machine.steps;
    }

    public int fold(int g, int way, int axis) {
        store.failedAxes = -1;
        Grid grid = store.find(g);
        if (log.closed || grid == null) {
            return refusal(g);
        }
        if (way < 0 || way > Folds.PAIRED_SUM || axis < -1) {
            return -ABSENT;
        }
        return folds.folded(grid, way, axis);
    }

    public int running(int g, int way, int axis) {
        store.failedAxes = -1;
        Grid grid = store.find(g);
        if (log.closed || grid == null) {
            return refusal(g);
        }
        if (way < 0 || way > Folds.ANY || way == Folds.COUNT || axis < -1) {
            return -ABSENT;
        }
        return folds.foldedOn(grid, way, axis);
    }

    public int sorted(int g, boolean falling) {
        Grid grid = store.find(g);
        if (log.closed || grid == null) {
            return refusal(g);
        }
        return grid.axes != 1 ? -UNFIT : folds.inOrder(grid, falling);
    }

    public int search(int g, long bits) {
        Grid grid = store.find(g);
        if (log.closed || grid == null) {
            return refusal(g);
        }
        if (grid.axes != 1 || !Numbers.holds(grid.lane, bits)) {
            return -UNFIT;
        }
        return folds.countBefore(grid, bits);
    }

    public int groups(int keys, int values, int way) {
        Grid first = store.find(keys);
        Grid second = store.find(values);
        if (log.closed || first == null || second == null) {
            return refusal(keys, values);
        }
        if (way < 0 || way > Folds.ANY) {
            return -ABSENT;
        }
        return folds.grouped(first, second, way);
    }

    public int join(int g, int h) {
        Grid first = store.find(g);
        Grid second = store.find(h);
        if (log.closed || first == null || second == null) {
            return refusal(g, h);
        }
        if (first.axes != 1 || second.axes != 1 || first.lane != second.lane) {
            return -UNFIT;
        }
        return folds.paired(first, second);
    }

    public int product(int g, int h) {
        store.failedAxes = -1;
        Grid first = store.find(g);
        Grid second = store.find(h);
        if (log.closed || first == null || second == null) {
            return refusal(g, h);
        }
        return matrices.multiplied(first, second);
    }

    public int solve(int g, int h) {
        store.failedAxes = -1;
        Grid first = store.find(g);
        Grid second = store.find(h);
        if (log.closed || first == null || second == null) {
            return refusal(g, h);
        }
        return matrices.solved(first, second);
    }

    public int residues(int g, int p, boolean back) {
        Grid grid = store.find(g);
        if (log.closed || grid == null) {
            return refusal(g);
        }
        return matrices.transformed(grid, p, back);
    }

    public int table() {
        if (log.closed) {
            return -SHUT;
        }
        int answer = tables.taken(tray, takeTray());
        if (answer > 0) {
            latestPlace = -1;
        } else if (answer == -FAULT) {
            latestPlace = tables.faultAt;
        }
        return answer;
    }

    private int tableRefusal(int t) {
        if (log.closed) {
            return -SHUT;
        }
        return tables.has(t) ? 0 : -ABSENT;
    }

    private int columnRefusal(int t, int c) {
        int refused = tableRefusal(t);
        if (refused != 0) {
            return refused;
        }
        return c < 0 || c >= tables.width[t] ? -NO_SPOT : 0;
    }

    public int rows(int t) {
        int refused = tableRefusal(t);
        return refused != 0 ? refused : tables.height[t];
    }

    public int named(int t) {
        if (log.closed) {
            return -SHUT;
        }
        int length = takeTray();
        int found = tables.has(t) ? tables.columnNamed(t, tray, length) : -1;
        return found < 0 ? -ABSENT : found;
    }

    public int columnLane(int t, int c) {
        int refused = columnRefusal(t, c);
        return refused != 0 ? refused : tables.laneOf(t, c);
    }

    public int column(int t, int c) {
        int refused = columnRefusal(t, c);
        return refused != 0 ? refused : tables.columnGrid(t, c);
    }

    public int missing(int t, int c) {
        int refused = columnRefusal(t, c);
        return refused != 0 ? refused : tables.missingGrid(t, c);
    }

    public int pick(int t, int g) {
        int refused = tableRefusal(t);
        Grid grid = store.find(g);
        if (refused != 0) {
            return refused;
        }
        if (grid == null) {
            return -ABSENT;
        }
        if (grid.lane != INT || grid.axes != 1) {
            return -UNFIT;
        }
        return tables.picked(t, grid);
    }

    public int write(int t) {
        int refused = tableRefusal(t);
        if (refused != 0) {
            return refused;
        }
        int length = tables.textLength(t);
        if (length > WRITTEN_MOST) {
            return -NO_ROOM;
        }
        tables.writeText(t, written);
        writtenLength = length;
        return length;
    }

    public int bytes(int g) {
        Grid grid = store.find(g);
        if (log.closed || grid == null) {
            return refusal(g);
        }
        int length = Log.encodedLength(grid);
        if (length > WRITTEN_MOST) {
            return -NO_ROOM;
        }
        log.encode(grid, written, 0);
        writtenLength = length;
        return length;
    }

    public int out(int i) {
        return i < 0 || i >= writtenLength ? -1 : written[i] & 255;
    }

    public int read() {
        if (log.closed) {
            return -SHUT;
        }
        int fault = log.decode(tray, 0, takeTray());
        if (fault >= 0) {
            latestPlace = fault;
            return -FAULT;
        }
        int answer = store.addFromWork(log.decodedLane, 0);
        if (answer > 0) {
            latestPlace = -1;
        }
        return answer;
    }

    public int keep(int g) {
        if (log.closed) {
            return -SHUT;
        }
        int length = takeTray();
        Grid grid = store.find(g);
        if (grid == null) {
            return -ABSENT;
        }
        if (!Log.isName(tray, 0, length)) {
            return -UNFIT;
        }
        return log.append(grid, tray, length);
    }

    public int open() {
        if (log.closed) {
            return -SHUT;
        }
        int length = takeTray();
        int record = log.latest(tray, length);
        if (record < 0 || !log.decodeRecord(record)) {
            return -ABSENT;
        }
        return store.addFromWork(log.decodedLane, 0);
    }

    public int logged() {
        return log.length;
    }

    public boolean poke(int i, int mask) {
        if (!log.closed || i < 0 || i >= log.length) {
            return false;
        }
        log.data[i] = (byte) (log.data[i] ^ mask);
        return true;
    }

    public boolean crash(int n) {
        if (log.closed || n < 0) {
            return false;
        }
        log.cutLast(n);
        store.forget();
        tables.forget();
        program.forget();
        machine.forget();
        sizeCount = 0;
        indexCount = 0;
        latestCode = 0;
        latestPlace = -1;
        writtenLength = 0;
        return true;
    }

    public int reopen() {
        if (!log.closed) {
            return -SHUT;
        }
        if (log.opened >= Log.OPENED_MOST) {
            return -NO_ROOM;
        }
        return log.readAgain();
    }

    /**
     * A grid or a view. Its axes stand at the end of four positions; the positions before
     * them have size 1, so that all grids are walked alike and joined from the last axis on.
     */
    private static final class Grid {
        final int lane;
        final int axes;
        final int[] size;
        final int[] step;
        final int from;
        final boolean spread;
        final int count;
        final int root;
        final int rootCells;

        /** The base is the grid whose cells a view has, null for a grid with its own ones. */
        Grid(int lane, int axes, int[] size, int[] step, int from, boolean spread, Grid base) {
            this.lane = lane;
            this.axes = axes;
            this.size = size;
            this.step = step;
            this.from = from;
            this.spread = spread;
            this.count = size[0] * size[1] * size[2] * size[3];
            this.root = base == null ? from : base.root;
            this.rootCells = base == null ? count : base.rootCells;
        }

        boolean hasAxis(int axis) {
            return axis >= 0 && axis < axes;
        }

        int position(int axis) {
            return AXES_MOST - axes + axis;
        }

        /** Where the cell at a spot is kept, -1 if there is none. */
        int spotOf(int[] indexes, int many) {
            int spot = from;
            for (int k = 0; k < many; k++) {
                int p = position(k);
                if (indexes[k] < 0 || indexes[k] >= size[p]) {
                    return -1;
                }
                spot += indexes[k] * step[p];
            }
            return spot;
        }

        /** Where cell n in row order is kept; n is one of its cells. */
        int spotOfCell(int n) {
            int spot = from;
            int rest = n;
            for (int p = AXES_MOST - 1; p >= 0; p--) {
                if (size[p] > 0) {
                    spot += rest % size[p] * step[p];
                    rest /= size[p];
                }
            }
            return spot;
        }

        boolean isShapedLike(Grid other) {
            boolean alike = axes == other.axes;
            for (int p = 0; p < AXES_MOST; p++) {
                alike = alike && size[p] == other.size[p];
            }
            return alike;
        }

        Grid exchanged(int p, int q) {
            int[] sizes = size.clone();
            int[] steps = step.clone();
            sizes[p] = size[q];
            sizes[q] = size[p];
            steps[p] = step[q];
            steps[q] = step[p];
            return new Grid(lane, axes, sizes, steps, from, spread, this);
        }
    }

    /** All grids with their cells, and the rows in which results are worked out. */
    private static final class Store {
        final Grid[] grids = new Grid[GRIDS_MOST + 1];
        int made;
        long[] cells = new long[256];
        int used;
        long[] work = new long[256];
        long[] line = new long[256];
        final int[] shape = new int[AXES_MOST];
        int shapeAxes;
        final int[] failedSpot = new int[AXES_MOST];
        int failedAxes = -1;

        Grid find(int number) {
            return number >= 1 && number <= made ? grids[number] : null;
        }

        void forget() {
            for (int n = 1; n <= made; n++) {
                grids[n] = null;
            }
            failedAxes = -1;
        }

        void shapeBy(int[] sizes, int many) {
            Arrays.fill(shape, 1);
            shapeAxes = many;
            for (int k = 0; k < many; k++) {
                shape[AXES_MOST - many + k] = sizes[k];
            }
        }

        void shapeLike(Grid grid) {
            shapeAxes = grid.axes;
            System.arraycopy(grid.size, 0, shape, 0, AXES_MOST);
        }

        /** The shape of a result with one axis. */
        void shapeRow(int many) {
            Arrays.fill(shape, 1);
            shapeAxes = 1;
            shape[3] = many;
        }

        void shapeMatrix(int rows, int columns) {
            Arrays.fill(shape, 1);
            shapeAxes = 2;
            shape[2] = rows;
            shape[3] = columns;
        }

        long shapeCells() {
            return (long) shape[0] * shape[1] * shape[2] * shape[3];
        }

        boolean hasRoom(int grids, long count) {
            return made + grids <= GRIDS_MOST && used + count <= CELLS_MOST;
        }

        // Rows grow by doubling: what is given up on the way stays less than what is kept.
        void needWork(int need) {
            if (need > work.length) {
                work = Arrays.copyOf(work, Math.max(need, 2 * work.length));
            }
        }

        void needLine(int need) {
            if (need > line.length) {
                line = Arrays.copyOf(line, Math.max(need, 2 * line.length));
            }
        }

        private void needCells(int need) {
            if (need > cells.length) {
                cells = Arrays.copyOf(cells, Math.max(need, 2 * cells.length));
            }
        }

        /** A new grid of the shape, with cells 0. */
        int addEmpty(int lane) {
            long count = shapeCells();
            if (!hasRoom(1, count)) {
                return -NO_ROOM;
            }
            needCells(used + (int) count);
            int[] steps = new int[AXES_MOST];
            int step = count == 0 ? 0 : 1;
            for (int p = AXES_MOST - 1; p >= 0; p--) {
                steps[p] = step;
                step *= shape[p];
            }
            made++;
            grids[made] = new Grid(lane, shapeAxes, shape.clone(), steps, used, false, null);
            used += (int) count;
            return made;
        }

        /** A new grid of the shape, with the cells that stand in the work row from a place on. */
        int addFromWork(int lane, int place) {
            int number = addEmpty(lane);
            if (number > 0) {
                Grid grid = grids[number];
                System.arraycopy(work, place, cells, grid.from, grid.count);
            }
            return number;
        }

        int addView(Grid grid) {
            if (!hasRoom(1, 0)) {
                return -NO_ROOM;
            }
            made++;
            grids[made] = grid;
            return made;
        }

        /** A spread view of the shape. */
        int addSpread(Grid grid) {
            if (grid.axes > shapeAxes) {
                return -SIZES;
            }
            int[] steps = new int[AXES_MOST];
            for (int p = 0; p < AXES_MOST; p++) {
                if (grid.size[p] != shape[p] && grid.size[p] != 1) {
                    return -SIZES;
                }
                steps[p] = grid.size[p] == 1 ? 0 : grid.step[p];
            }
            if (shapeCells() > CELLS_MOST) {
                return -NO_ROOM;
            }
            return addView(new Grid(grid.lane, shapeAxes, shape.clone(), steps, grid.from, true, grid));
        }

        /** Fills the line with the places where the cells are kept, in row order. */
        void placesToLine(Grid grid) {
            needLine(grid.count);
            if (grid.count == 0) {
                return;
            }
            int n = 0;
            for (int a = 0; a < grid.size[0]; a++) {
                for (int b = 0; b < grid.size[1]; b++) {
                    int outer = grid.from + a * grid.step[0] + b * grid.step[1];
                    for (int c = 0; c < grid.size[2]; c++) {
                        int spot = outer + c * grid.step[2];
                        for (int d = 0; d < grid.size[3]; d++) {
                            line[n] = spot;
                            n++;
                            spot += grid.step[3];
                        }
                    }
                }
            }
        }

        void valuesToLine(Grid grid) {
            placesToLine(grid);
            for (int n = 0; n < grid.count; n++) {
                line[n] = cells[(int) line[n]];
            }
        }

        void valuesToWork(Grid grid) {
            placesToLine(grid);
            needWork(grid.count);
            for (int n = 0; n < grid.count; n++) {
                work[n] = cells[(int) line[n]];
            }
        }

        /** All values are taken before the first is put: the two may share cells. */
        void copyCells(Grid source, Grid target) {
            valuesToWork(source);
            placesToLine(target);
            for (int n = 0; n < target.count; n++) {
                cells[(int) line[n]] = Numbers.widened(source.lane, target.lane, work[n]);
            }
        }

        boolean meet(Grid first, Grid second) {
            if (first.root != second.root || first.count == 0 || second.count == 0) {
                return false;
            }
            needWork(first.rootCells);
            Arrays.fill(work, 0, first.rootCells, 0L);
            placesToLine(first);
            for (int n = 0; n < first.count; n++) {
                work[(int) line[n] - first.root] = 1;
            }
            placesToLine(second);
            for (int n = 0; n < second.count; n++) {
                if (work[(int) line[n] - first.root] == 1) {
                    return true;
                }
            }
            return false;
        }

        /** Tells that cell n, in row order, of the shape failed. */
        void failAt(int n) {
            failedAxes = shapeAxes;
            int rest = n;
            for (int p = AXES_MOST - 1; p >= 0; p--) {
                failedSpot[p] = shape[p] > 0 ? rest % shape[p] : 0;
                rest = shape[p] > 0 ? rest / shape[p] : 0;
            }
        }
    }

    /** Reads view texts and makes the views they tell. */
    private static final class Slicer {
        private static final int ONE_PLACE = 0;
        private static final int RANGE = 1;
        private static final int NEW_AXIS = 2;
        private static final int DIGITS_MOST = 9;
        int faultAt;
        private byte[] text = new byte[0];
        private int length;
        private int next;
        private int itemAt;
        private int kind;
        private final boolean[] told = new boolean[3];
        private final int[] parts = new int[3];
        private final int[] size = new int[AXES_MOST];
        private final int[] step = new int[AXES_MOST];
        private int count;
        private int from;

        /** The view that the text tells, null if the text has a fault. */
        Grid sliced(Grid grid, byte[] source, int sourceLength) {
            text = source;
            length = sourceLength;
            if (!isWellFormed()) {
                return null;
            }
            count = 0;
            from = grid.from;
            if (!applyItems(grid)) {
                return null;
            }
            if (count > AXES_MOST) {
                faultAt = length;
                return null;
            }
            int[] sizes = {1, 1, 1, 1};
            int[] steps = new int[AXES_MOST];
            System.arraycopy(size, 0, sizes, AXES_MOST - count, count);
            System.arraycopy(step, 0, steps, AXES_MOST - count, count);
            return new Grid(grid.lane, count, sizes, steps, from, grid.spread, grid);
        }

        private boolean isByte(int c) {
            return next < length && text[next] == c;
        }

        private boolean isDigit() {
            return next < length && text[next] >= '0' && text[next] <= '9';
        }

        private void skipBlanks() {
            while (next < length && text[next] == ' ') {
                next++;
            }
        }

        private boolean fault(int place) {
            faultAt = place;
            return false;
        }

        /** Reads all items without applying them: a byte that does not belong comes before all else. */
        private boolean isWellFormed() {
            next = 0;
            skipBlanks();
            boolean more = next < length;
            for (int turn = 0; more && turn <= length; turn++) {
                if (!readItem()) {
                    return false;
                }
                more = next < length;
                if (more && !isByte(',')) {
                    return fault(next);
                }
                next++;
            }
            return true;
        }

        private boolean readItem() {
            skipBlanks();
            itemAt = next;
            Arrays.fill(parts, 0);
            told[0] = false;
            told[1] = false;
            told[2] = false;
            if (isByte('*')) {
                kind = NEW_AXIS;
                next++;
                skipBlanks();
                return true;
            }
            if (!readPart(0)) {
                return false;
            }
            kind = isByte(':') ? RANGE : ONE_PLACE;
            for (int k = 1; k < 3 && isByte(':'); k++) {
                next++;
                skipBlanks();
                if (!readPart(k)) {
                    return false;
                }
            }
            return kind == RANGE || told[0] || fault(next);
        }

        /** Reads the number of a part, if one is there, and the blanks behind it. */
        private boolean readPart(int k) {
            boolean minus = isByte('-');
            if (minus) {
                next++;
                if (!isDigit()) {
                    return fault(next);
                }
            }
            int value = 0;
            for (int digits = 0; digits < DIGITS_MOST && isDigit(); digits++) {
                value = value * 10 + (text[next] - '0');
                told[k] = true;
                next++;
            }
            parts[k] = minus ? -value : value;
            skipBlanks();
            return true;
        }

        private boolean applyItems(Grid grid) {
            int axis = 0;
            next = 0;
            skipBlanks();
            boolean more = next < length;
            for (int turn = 0; more && turn <= length; turn++) {
                if (!readItem()) {
                    return false;
                }
                if (kind == NEW_AXIS) {
                    addAxis(1, 0);
                } else {
                    if (!grid.hasAxis(axis) || !applyItem(grid, grid.position(axis))) {
                        return fault(itemAt);
                    }
                    axis++;
                }
                more = next < length;
                next++;
            }
            for (; axis < grid.axes; axis++) {
                addAxis(grid.size[grid.position(axis)], grid.step[grid.position(axis)]);
            }
            return true;
        }

        private boolean applyItem(Grid grid, int p) {
            int n = grid.size[p];
            if (kind == ONE_PLACE) {
                if (parts[0] < -n || parts[0] >= n) {
                    return false;
                }
                from += (parts[0] < 0 ? parts[0] + n : parts[0]) * grid.step[p];
                return true;
            }
            int by = told[2] ? parts[2] : 1;
            if (by == 0) {
                return false;
            }
            int low = by > 0 ? 0 : -1;
            int high = by > 0 ? n : n - 1;
            int first = bound(0, n, by > 0 ? low : high, low, high);
            int last = bound(1, n, by > 0 ? high : low, low, high);
            int many = 0;
            if (by > 0 && first < last) {
                many = (last - first - 1) / by + 1;
            } else if (by < 0 && first > last) {
                many = (first - last - 1) / -by + 1;
            }
            if (many > 0) {
                from += first * grid.step[p];
            }
            addAxis(many, many > 1 ? grid.step[p] * by : 0);
            return true;
        }

        private int bound(int k, int n, int otherwise, int low, int high) {
            if (!told[k]) {
                return otherwise;
            }
            int value = parts[k] < 0 ? parts[k] + n : parts[k];
            return Math.max(low, Math.min(high, value));
        }

        private void addAxis(int axisSize, int axisStep) {
            if (count < AXES_MOST) {
                size[count] = axisSize;
                step[count] = axisStep;
            }
            count++;
        }
    }

    /** Arithmetic of doubles on their bits, with the language's results. NAN stands for none. */
    private static final class Soft {
        static final long NAN = 0x7ff8000000000000L;
        static final long INFINITE = 0x7ff0000000000000L;
        static final long MINUS = 0x8000000000000000L;
        static final long ONE = 0x3ff0000000000000L;
        static final long FLOAT_INFINITE = 0x7f800000L;
        static final long FLOAT_MINUS = 0x80000000L;
        static final long FLOAT_ONE = 0x3f800000L;
        static final int DOUBLE_DIGITS = 53;
        static final int FLOAT_DIGITS = 24;
        static final int DOWN = 0;
        static final int UP = 1;
        static final int NEAREST = 2;
        private static final long HIDDEN = 0x10000000000000L;
        private static final long LEAST_LONG = 0xc3e0000000000000L;
        private static final long LOW_HALF = 0xffffffffL;

        /** How many binary digits a number without sign has. */
        static int width(long number) {
            int width = 0;
            long rest = number;
            for (int half = 32; half > 0; half >>= 1) {
                if (rest >>> half != 0) {
                    rest >>>= half;
                    width += half;
                }
            }
            return rest == 0 ? width : width + 1;
        }

        private static long mantissa(long bits) {
            long fraction = bits & (HIDDEN - 1);
            return (bits & INFINITE) == 0 ? fraction : fraction | HIDDEN;
        }

        /** The power of two that the mantissa is to be multiplied by. */
        private static int scale(long bits) {
            return Math.max(1, (int) (bits >>> 52) & 2047) - 1075;
        }

        private static boolean isInfinite(long bits) {
            return (bits & INFINITE) == INFINITE;
        }

        /**
         * The number m * 2^scale rounded to a format of so many digits. If the lowest digit of
         * m stands for all that was cut off below it, m has at least two digits more than those.
         */
        private static long pack(boolean minus, int scale, long m, int digits) {
            boolean wide = digits == DOUBLE_DIGITS;
            long sign = !minus ? 0 : wide ? MINUS : FLOAT_MINUS;
            long infinite = wide ? INFINITE : FLOAT_INFINITE;
            if (m == 0) {
                return sign;
            }
            int up = 63 - width(m);
            long top = m << up;
            int exponent = scale - up + 62;
            int least = wide ? -1022 : -126;
            if (exponent > 1 - least) {
                return sign | infinite;
            }
            int drop = 63 - digits + Math.max(0, least - exponent);
            if (drop > 63) {
                return sign;
            }
            long kept = top >>> drop;
            long rest = top - (kept << drop);
            long half = 1L << (drop - 1);
            if (rest > half || rest == half && (kept & 1) == 1) {
                kept++;
            }
            kept += (long) Math.max(0, exponent - least) << (digits - 1);
            return sign | Math.min(kept, infinite);
        }

        static long fromLong(long number, int digits) {
            if (number == Long.MIN_VALUE) {
                return pack(true, 1, 1L << 62, digits);
            }
            return pack(number < 0, 0, number < 0 ? -number : number, digits);
        }

        static long fromFloat(long bits) {
            long sign = (bits & FLOAT_MINUS) << 32;
            long size = bits & (FLOAT_MINUS - 1);
            if (size >= FLOAT_INFINITE) {
                return sign | INFINITE;
            }
            long fraction = size & 0x7fffffL;
            int field = (int) (size >>> 23);
            long m = field == 0 ? fraction : fraction | 0x800000L;
            return pack(sign != 0, Math.max(1, field) - 150, m, DOUBLE_DIGITS);
        }

        static long toFloat(long bits) {
            if (isInfinite(bits)) {
                return (bits < 0 ? FLOAT_MINUS : 0) | FLOAT_INFINITE;
            }
            return pack(bits < 0, scale(bits), mantissa(bits), FLOAT_DIGITS);
        }

        static long sum(long a, long b) {
            if (isInfinite(a)) {
                return isInfinite(b) && a != b ? NAN : a;
            }
            if (isInfinite(b)) {
                return b;
            }
            boolean swapped = (a & ~MINUS) < (b & ~MINUS);
            long great = swapped ? b : a;
            long small = swapped ? a : b;
            long x = mantissa(great) << 9;
            long y = shiftedDown(mantissa(small) << 9, scale(great) - scale(small));
            boolean alike = (a ^ b) >= 0;
            long m = alike ? x + y : x - y;
            if (m == 0) {
                return alike ? a & MINUS : 0;
            }
            return pack(great < 0, scale(great) - 9, m, DOUBLE_DIGITS);
        }

        /** Whatever goes out at the bottom stays as a lowest digit 1. */
        private static long shiftedDown(long m, int by) {
            if (by > 62) {
                return m == 0 ? 0 : 1;
            }
            long kept = m >>> by;
            return kept << by == m ? kept : kept | 1;
        }

        static long times(long a, long b) {
            long sign = (a ^ b) & MINUS;
            long x = mantissa(a);
            long y = mantissa(b);
            if (isInfinite(a) || isInfinite(b)) {
                return x == 0 || y == 0 ? NAN : sign | INFINITE;
            }
            if (x == 0 || y == 0) {
                return sign;
            }
            int upX = 63 - width(x);
            int upY = 63 - width(y);
            x <<= upX;
            y <<= upY;
            long m = highProduct(x, y);
            if (x * y != 0) {
                m |= 1;
            }
            return pack(sign != 0, scale(a) - upX + scale(b) - upY + 64, m, DOUBLE_DIGITS);
        }

        /** The upper 64 of the 128 digits of a product of two numbers from 0 on. */
        private static long highProduct(long x, long y) {
            long lowX = x & LOW_HALF;
            long highX = x >>> 32;
            long lowY = y & LOW_HALF;
            long highY = y >>> 32;
            long middle = highX * lowY + (lowX * lowY >>> 32);
            long other = lowX * highY + (middle & LOW_HALF);
            return highX * highY + (middle >>> 32) + (other >>> 32);
        }

        static long quotient(long a, long b) {
            long sign = (a ^ b) & MINUS;
            long x = mantissa(a);
            long y = mantissa(b);
            if (isInfinite(a)) {
                return isInfinite(b) ? NAN : sign | INFINITE;
            }
            if (isInfinite(b)) {
                return sign;
            }
            if (y == 0) {
                return x == 0 ? NAN : sign | INFINITE;
            }
            int upX = DOUBLE_DIGITS - width(x);
            int upY = DOUBLE_DIGITS - width(y);
            x <<= upX;
            y <<= upY;
            long m = x / y;
            long rest = x % y;
            for (int turn = 0; turn < 6; turn++) {
                m = m << 10 | (rest << 10) / y;
                rest = (rest << 10) % y;
            }
            if (rest != 0) {
                m |= 1;
            }
            return pack(sign != 0, scale(a) - upX - scale(b) + upY - 60, m, DOUBLE_DIGITS);
        }

        static long rest(long a, long b) {
            long x = mantissa(a);
            long y = mantissa(b);
            if (isInfinite(a) || y == 0) {
                return NAN;
            }
            if (isInfinite(b) || (a & ~MINUS) < (b & ~MINUS)) {
                return a;
            }
            int upX = DOUBLE_DIGITS - width(x);
            int upY = DOUBLE_DIGITS - width(y);
            y <<= upY;
            int bottom = scale(b) - upY;
            long m = (x << upX) % y;
            for (int more = scale(a) - upX - bottom; more > 0; more -= 10) {
                m = (m << Math.min(more, 10)) % y;
            }
            return pack(a < 0, bottom, m, DOUBLE_DIGITS);
        }

        /** A number that is ordered as the double is, minus zero before zero. */
        static long order(long bits) {
            return bits < 0 ? bits ^ ~MINUS : bits;
        }

        static long root(long a) {
            long m = mantissa(a);
            if (m == 0 || a == INFINITE) {
                return a;
            }
            if (a < 0) {
                return NAN;
            }
            int up = DOUBLE_DIGITS - width(m);
            int scale = scale(a) - up;
            m <<= up;
            if ((scale & 1) != 0) {
                m <<= 1;
                scale--;
            }
            long root = 0;
            long rest = 0;
            // The root of m * 2^56, two digits of it a turn: 55 digits, of which 53 are kept.
            for (int pair = 108; pair >= 0; pair -= 2) {
                long two = pair >= 56 ? m >>> (pair - 56) & 3 : 0;
                rest = rest << 2 | two;
                long trial = root << 2 | 1;
                root <<= 1;
                if (rest >= trial) {
                    rest -= trial;
                    root |= 1;
                }
            }
            return pack(false, scale / 2 - 29, root << 1 | (rest != 0 ? 1 : 0), DOUBLE_DIGITS);
        }

        /** The whole number below, above or nearest (ties to even); the sign stays. */
        static long whole(long a, int way) {
            int down = -scale(a);
            long m = mantissa(a);
            if (down <= 0 || m == 0) {
                return a;
            }
            boolean minus = a < 0;
            long kept = down > 62 ? 0 : m >>> down;
            boolean exact = down <= 62 && kept << down == m;
            if (!exact && way == NEAREST) {
                long half = down > 62 ? 0 : 1L << (down - 1);
                long rest = down > 62 ? 0 : m - (kept << down);
                if (rest > half || rest == half && (kept & 1) == 1) {
                    kept++;
                }
            } else if (!exact && minus == (way == DOWN)) {
                kept++;
            }
            return pack(minus, 0, kept, DOUBLE_DIGITS);
        }

        static boolean fitsLong(long a) {
            return ((int) (a >>> 52) & 2047) < 1086 || a == LEAST_LONG;
        }

        /** Cut towards 0; the least or greatest long where it is beyond. */
        static long cut(long a) {
            int exponent = ((int) (a >>> 52) & 2047) - 1023;
            if (exponent < 0) {
                return 0;
            }
            if (exponent > 62) {
                return a < 0 ? Long.MIN_VALUE : Long.MAX_VALUE;
            }
            long m = mantissa(a);
            long size = exponent >= 52 ? m << (exponent - 52) : m >>> (52 - exponent);
            return a < 0 ? -size : size;
        }
    }

    /** The lanes: what fits what, casts, and the operators and built-in functions in a lane. */
    private static final class Numbers {
        private static final long[] TENS = {
            1L, 10L, 100L, 1000L, 10000L, 100000L, 1000000L, 10000000L, 100000000L, 1000000000L,
            10000000000L, 100000000000L, 1000000000000L, 10000000000000L, 100000000000000L,
            1000000000000000L
        };
        /** Set by an operation that has no result; who asks for results clears it before. */
        boolean bad;

        static boolean isLane(int lane) {
            return lane >= BOOLEAN && lane <= DOUBLE;
        }

        static boolean isNumber(int lane) {
            return lane >= BYTE && lane <= DOUBLE;
        }

        static boolean isWhole(int lane) {
            return lane >= BYTE && lane <= LONG;
        }

        static boolean fits(int lane, int other) {
            return lane == other || lane != BOOLEAN && other != CHAR && lane < other;
        }

        static int wider(int lane, int other) {
            return Math.max(INT, Math.max(lane, other));
        }

        private static long least(int lane) {
            switch (lane) {
                case BYTE: return -128;
                case SHORT: return -32768;
                case CHAR: return 0;
                case INT: return Integer.MIN_VALUE;
                default: return Long.MIN_VALUE;
            }
        }

        private static long greatest(int lane) {
            switch (lane) {
                case BYTE: return 127;
                case SHORT: return 32767;
                case CHAR: return 65535;
                case INT: return Integer.MAX_VALUE;
                default: return Long.MAX_VALUE;
            }
        }

        static boolean holds(int lane, long bits) {
            switch (lane) {
                case BOOLEAN: return bits == 0 || bits == 1;
                case FLOAT: return bits >>> 32 == 0 && (bits & ~Soft.FLOAT_MINUS) <= Soft.FLOAT_INFINITE;
                case DOUBLE: return (bits & ~Soft.MINUS) <= Soft.INFINITE;
                default: return bits >= least(lane) && bits <= greatest(lane);
            }
        }

        /** The bits in a lane that the value's lane fits. */
        static long widened(int lane, int other, long bits) {
            if (lane == other || other < FLOAT) {
                return bits;
            }
            return lane == FLOAT ? Soft.fromFloat(bits) : Soft.fromLong(bits, digitsOf(other));
        }

        private static int digitsOf(int lane) {
            return lane == FLOAT ? Soft.FLOAT_DIGITS : Soft.DOUBLE_DIGITS;
        }

        /** A number that is ordered as the values of the lane are. */
        static long order(int lane, long bits) {
            if (lane == FLOAT) {
                return (bits & Soft.FLOAT_MINUS) != 0 ? ~bits : bits;
            }
            return lane == DOUBLE ? Soft.order(bits) : bits;
        }

        /** A whole number divided by a power of ten, as a double. */
        static long decimal(long whole, int behind) {
            long tens = behind >= 0 && behind < TENS.length ? TENS[behind] : 1;
            return Soft.quotient(Soft.fromLong(whole, Soft.DOUBLE_DIGITS), Soft.fromLong(tens, Soft.DOUBLE_DIGITS));
        }

        private static long dropped(int lane, long number) {
            switch (lane) {
                case BYTE: return (byte) number;
                case SHORT: return (short) number;
                case CHAR: return (char) number;
                case INT: return (int) number;
                default: return number;
            }
        }

        private static long clamped(int lane, long number) {
            return Math.max(least(lane), Math.min(greatest(lane), number));
        }

        /** Casts as the language does. */
        static long plainCast(int lane, int other, long bits) {
            if (lane == other) {
                return bits;
            }
            if (lane < FLOAT) {
                return other >= FLOAT ? Soft.fromLong(bits, digitsOf(other)) : dropped(other, bits);
            }
            if (other >= FLOAT) {
                return lane == DOUBLE ? Soft.toFloat(bits) : Soft.fromFloat(bits);
            }
            long number = Soft.cut(lane == FLOAT ? Soft.fromFloat(bits) : bits);
            return other == LONG ? number : dropped(other, clamped(INT, number));
        }

        long castBy(int lane, int other, int rule, long bits) {
            if (lane == other) {
                return bits;
            }
            if (rule == 0 || rule == 2 || other >= FLOAT) {
                long result = plainCast(lane, other, bits);
                if (rule == 2 && !isSame(lane, bits, other, result)) {
                    bad = true;
                }
                return result;
            }
            if (lane < FLOAT) {
                return clamped(other, bits);
            }
            long number = widened(lane, DOUBLE, bits);
            return clamped(other, Soft.cut(rule == 3 ? Soft.whole(number, Soft.NEAREST) : number));
        }

        private static boolean isSame(int lane, long bits, int other, long result) {
            if (lane < FLOAT && other < FLOAT) {
                return bits == result;
            }
            if (lane < FLOAT) {
                long number = widened(other, DOUBLE, result);
                return Soft.fitsLong(number) && Soft.cut(number) == bits;
            }
            long number = widened(lane, DOUBLE, bits);
            if (other >= FLOAT) {
                return number == widened(other, DOUBLE, result);
            }
            return Soft.fitsLong(number) && Soft.whole(number, Soft.DOWN) == number && Soft.cut(number) == result;
        }

        /** + - * / % of ints or longs. */
        long wholeResult(int op, int lane, long a, long b) {
            long result = 0;
            switch (op) {
                case ADD:
                    result = a + b;
                    break;
                case SUBTRACT:
                    result = a - b;
                    break;
                case MULTIPLY:
                    result = a * b;
                    break;
                default:
                    if (b == 0) {
                        bad = true;
                    } else {
                        result = op == DIVIDE ? a / b : a % b;
                    }
                    break;
            }
            return lane == INT ? (int) result : result;
        }

        /** + - * / % of floats or doubles. A double's result, rounded again, is the float's. */
        long floatResult(int op, int lane, long a, long b) {
            long x = lane == FLOAT ? Soft.fromFloat(a) : a;
            long y = lane == FLOAT ? Soft.fromFloat(b) : b;
            long result;
            switch (op) {
                case ADD:
                    result = Soft.sum(x, y);
                    break;
                case SUBTRACT:
                    result = Soft.sum(x, y ^ Soft.MINUS);
                    break;
                case MULTIPLY:
                    result = Soft.times(x, y);
                    break;
                case DIVIDE:
                    result = Soft.quotient(x, y);
                    break;
                default:
                    result = Soft.rest(x, y);
                    break;
            }
            if (result == Soft.NAN) {
                bad = true;
                return 0;
            }
            return lane == FLOAT ? Soft.toFloat(result) : result;
        }

        /** By number: minus zero is zero. */
        static int compare(int lane, long a, long b) {
            boolean zeros = lane >= FLOAT && isZero(lane, a) && isZero(lane, b);
            return zeros ? 0 : Long.compare(order(lane, a), order(lane, b));
        }

        private static boolean isZero(int lane, long a) {
            return a == 0 || lane == FLOAT && a == Soft.FLOAT_MINUS || lane == DOUBLE && a == Soft.MINUS;
        }

        static long negated(int lane, long a) {
            switch (lane) {
                case INT: return (int) -a;
                case FLOAT: return a ^ Soft.FLOAT_MINUS;
                case DOUBLE: return a ^ Soft.MINUS;
                default: return -a;
            }
        }

        static long one(int lane) {
            return lane == FLOAT ? Soft.FLOAT_ONE : lane == DOUBLE ? Soft.ONE : 1;
        }

        static long shifted(int op, int lane, long a, long by) {
            if (lane == INT) {
                int number = (int) a;
                int places = (int) by & 31;
                return op == LEFT ? number << places : op == RIGHT ? number >> places : number >>> places;
            }
            int places = (int) by & 63;
            return op == LEFT ? a << places : op == RIGHT ? a >> places : a >>> places;
        }

        /** + - * of ints or longs, bad if the result does not fit. */
        long exactResult(int which, int lane, long a, long b) {
            long result;
            boolean wraps;
            if (which == ADD_EXACT) {
                result = a + b;
                wraps = ((a ^ result) & (b ^ result)) < 0;
            } else if (which == SUB_EXACT) {
                result = a - b;
                wraps = ((a ^ b) & (a ^ result)) < 0;
            } else {
                result = a * b;
                wraps = a == -1 ? b == Long.MIN_VALUE : a != 0 && result / a != b;
            }
            if (wraps || lane == INT && result != (int) result) {
                bad = true;
            }
            return result;
        }

        /** A built-in function of values that stand in the lane it is worked out in. */
        long builtIn(int which, int lane, long a, long b) {
            switch (which) {
                case ABS:
                    return isBelow(lane, a) ? negated(lane, a) : a;
                case SIGN_OF:
                    return signOf(lane, a);
                case MIN_OF:
                    return order(lane, b) < order(lane, a) ? b : a;
                case MAX_OF:
                    return order(lane, b) > order(lane, a) ? b : a;
                case FLOOR_DIV:
                case FLOOR_MOD:
                    return floored(which, lane, a, b);
                case BITS_OF:
                    return lane == INT ? Integer.bitCount((int) a) : Long.bitCount(a);
                case HIGH_OF:
                    return Soft.width(lane == INT ? a & 0xffffffffL : a) - 1;
                case ROOT_OF:
                    long root = Soft.root(a);
                    bad = bad || root == Soft.NAN;
                    return bad ? 0 : root;
                case FLOOR_OF:
                    return Soft.whole(a, Soft.DOWN);
                case CEIL_OF:
                    return Soft.whole(a, Soft.UP);
                case ROUND_OF:
                    return Soft.whole(a, Soft.NEAREST);
                default:
                    return exactResult(which, lane, a, b);
            }
        }

        /** Minus zero counts: abs() turns it over. */
        private static boolean isBelow(int lane, long a) {
            return lane == FLOAT ? (a & Soft.FLOAT_MINUS) != 0 : a < 0;
        }

        private static long signOf(int lane, long a) {
            if (isZero(lane, a)) {
                return 0;
            }
            return isBelow(lane, a) ? negated(lane, one(lane)) : one(lane);
        }

        private long floored(int which, int lane, long a, long b) {
            if (b == 0) {
                bad = true;
                return 0;
            }
            long result = which == FLOOR_DIV ? Math.floorDiv(a, b) : Math.floorMod(a, b);
            return lane == INT ? (int) result : result;
        }
    }

    /** The instructions of all functions, then those of the formula at hand; and the functions' heads. */
    private static final class Program {
        int[] op = new int[128];
        int[] arg = new int[128];
        int[] at = new int[128];
        int[] lanes = new int[128];
        long[] value = new long[128];
        int length;
        final byte[] names = new byte[FUNCTIONS_MOST * LETTERS_MOST];
        final int[] nameLength = new int[FUNCTIONS_MOST];
        final int[] nameAt = new int[FUNCTIONS_MOST];
        final int[] resultLane = new int[FUNCTIONS_MOST];
        final int[] parameters = new int[FUNCTIONS_MOST];
        final int[] parameterLane = new int[FUNCTIONS_MOST * PARAMETERS_MOST];
        final int[] parameterAt = new int[FUNCTIONS_MOST * PARAMETERS_MOST];
        final int[] parameterLength = new int[FUNCTIONS_MOST * PARAMETERS_MOST];
        final int[] start = new int[FUNCTIONS_MOST];
        int count;
        /** Functions that were lost count among those for life. */
        int born;

        void forget() {
            count = 0;
            length = 0;
        }

        void need(int more) {
            int need = length + more;
            if (need > op.length) {
                int room = Math.max(need, 2 * op.length);
                op = Arrays.copyOf(op, room);
                arg = Arrays.copyOf(arg, room);
                at = Arrays.copyOf(at, room);
                lanes = Arrays.copyOf(lanes, room);
                value = Arrays.copyOf(value, room);
            }
        }

        /** Who emits has made room with need() before. */
        void emit(int newOp, int place, int newArg, int newLanes, long newValue) {
            op[length] = newOp;
            at[length] = place;
            arg[length] = newArg;
            lanes[length] = newLanes;
            value[length] = newValue;
            length++;
        }

        boolean isNamed(int f, byte[] text, int from, int many) {
            if (nameLength[f] != many) {
                return false;
            }
            for (int k = 0; k < many; k++) {
                if (names[f * LETTERS_MOST + k] != text[from + k]) {
                    return false;
                }
            }
            return true;
        }

        /** Whether an earlier function has this one's name and lanes. */
        boolean isTwice(int f) {
            for (int g = 0; g < f; g++) {
                boolean same = parameters[g] == parameters[f]
                    && isNamed(g, names, f * LETTERS_MOST, nameLength[f]);
                for (int k = 0; same && k < parameters[f]; k++) {
                    same = parameterLane[g * PARAMETERS_MOST + k] == parameterLane[f * PARAMETERS_MOST + k];
                }
                if (same) {
                    return true;
                }
            }
            return false;
        }

        /** Whether arguments of lanes, four bits each, fit a function's parameters. */
        private boolean takes(int f, long argumentLanes) {
            for (int k = 0; k < parameters[f]; k++) {
                int lane = (int) (argumentLanes >>> (4 * k)) & 15;
                if (!Numbers.fits(lane, parameterLane[f * PARAMETERS_MOST + k])) {
                    return false;
                }
            }
            return true;
        }

        private long packedLanes(int f) {
            long packed = 0;
            for (int k = 0; k < parameters[f]; k++) {
                packed |= (long) parameterLane[f * PARAMETERS_MOST + k] << (4 * k);
            }
            return packed;
        }

        /** Which of the first functions a call takes, or the refusal. */
        int choice(byte[] text, int from, int many, long argumentLanes, int arguments, int known) {
            long fitting = 0;
            for (int f = 0; f < known; f++) {
                if (parameters[f] == arguments && isNamed(f, text, from, many) && takes(f, argumentLanes)) {
                    fitting |= 1L << f;
                }
            }
            for (int f = 0; f < known; f++) {
                boolean best = (fitting >>> f & 1) == 1;
                for (int g = 0; best && g < known; g++) {
                    best = (fitting >>> g & 1) == 0 || takes(g, packedLanes(f));
                }
                if (best) {
                    return f;
                }
            }
            return fitting == 0 ? -FITS_NONE : -UNCLEAR;
        }
    }

    /** Reads the texts of functions and formulas, without recursion: what is open stands on a stack. */
    private static final class Compiler {
        private static final int TEXT_MOST = 4000;
        private static final int DEPTH_MOST = 25;
        private static final int HEIGHT_MOST = 30;
        private static final int DIGITS_MOST = 15;
        int faultAt;
        int usedGrids;
        int formulaLane;
        private final Program program;
        private byte[] text = new byte[0];
        private int length;
        private int next;
        // The text's tokens; of a name its length, of a number and a lane's word the lane.
        private final int[] tokenKind = new int[TEXT_MOST + 1];
        private final int[] tokenAt = new int[TEXT_MOST + 1];
        private final int[] tokenArg = new int[TEXT_MOST + 1];
        private final long[] tokenValue = new long[TEXT_MOST + 1];
        private int token;
        // What is open: its kind, its place, and what it counts or where it jumps from.
        private final int[] openKind = new int[512];
        private final int[] openAt = new int[512];
        private final int[] openArg = new int[512];
        private final int[] openExtra = new int[512];
        private int open;
        private int depth;
        // Heights, then lanes, of the values that stand at a place of the instructions.
        private final int[] stack = new int[TEXT_MOST + 2];
        private int top;

        Compiler(Program program) {
            this.program = program;
        }

        /** 0, or the fault with its place: all functions of the text are there, or none. */
        int takeFunctions(byte[] source, int sourceLength) {
            int mark = program.length;
            int known = program.count;
            int fault = 0;
            if (!scan(source, sourceLength) || !parseFunctions(known)) {
                faultAt = tokenAt[token];
                fault = FAULT_1;
            }
            for (int f = known; fault == 0 && f < program.count; f++) {
                fault = checkFunction(f);
            }
            if (fault != 0) {
                program.length = mark;
                program.count = known;
            }
            program.born += program.count - known;
            return fault;
        }

        int takeFormula(byte[] source, int sourceLength, Grid[] bound) {
            int mark = program.length;
            int fault = 0;
            usedGrids = 0;
            if (!scan(source, sourceLength) || !parseExpression(TEXT_END)) {
                faultAt = tokenAt[token];
                fault = FAULT_1;
            } else if (heightOf(mark) > HEIGHT_MOST) {
                faultAt = tokenAt[0];
                fault = FAULT_2;
            } else if (!check(mark, -1, bound)) {
                fault = FAULT_2;
            } else {
                formulaLane = stack[0];
                program.emit(HALT, 0, 0, 0, 0);
            }
            if (fault != 0) {
                program.length = mark;
            }
            return fault;
        }

        /** Cuts the text into tokens, up to its end or to what is none; false if it is too long. */
        private boolean scan(byte[] source, int sourceLength) {
            text = source;
            length = Math.min(sourceLength, TEXT_MOST);
            next = 0;
            token = 0;
            if (sourceLength > TEXT_MOST) {
                tokenAt[0] = TEXT_MOST;
                return false;
            }
            // A byte gives at most one instruction and a half.
            program.need(2 * length + 8);
            int kind = OPEN;
            for (int count = 0; count <= length && kind != TEXT_END && kind != NO_TOKEN; count++) {
                skipBlanks();
                tokenAt[count] = next;
                int c = byteAt(next);
                if (next >= length) {
                    kind = TEXT_END;
                } else if (isSmall(c)) {
                    kind = scanName(count);
                } else {
                    kind = isDigit(c) ? scanNumber(count) : scanSign();
                }
                tokenKind[count] = kind;
            }
            return true;
        }

        private void skipBlanks() {
            while (next < length && isBlank(text[next])) {
                next++;
            }
        }

        private static boolean isSmall(int c) {
            return c >= 'a' && c <= 'z';
        }

        private static boolean isDigit(int c) {
            return c >= '0' && c <= '9';
        }

        private static boolean isBlank(int c) {
            return c == ' ' || c == 9 || c == 10 || c == 13;
        }

        private int byteAt(int place) {
            return place >= 0 && place < length ? text[place] : 0;
        }

        private int scanName(int count) {
            int from = next;
            int c = byteAt(next);
            while (next < length && (isSmall(c) || isDigit(c) || c >= 'A' && c <= 'Z')) {
                next++;
                c = byteAt(next);
            }
            int word = wordIn(WORDS, from, next - from);
            if (word > DOUBLE) {
                tokenArg[count] = BOOLEAN;
                tokenValue[count] = word == DOUBLE + 1 ? 1 : 0;
                return NUMBER;
            }
            tokenArg[count] = word >= 0 ? word : next - from;
            if (word >= 0) {
                return LANE_WORD;
            }
            return next - from > LETTERS_MOST ? NO_TOKEN : NAME;
        }

        /** Which of a list's words stands in the text, -1 if none does. */
        private int wordIn(String list, int from, int many) {
            int word = 0;
            int begin = 0;
            for (int k = 0; k <= list.length(); k++) {
                if (k == list.length() || list.charAt(k) == ' ') {
                    if (k - begin == many && isAt(list, begin, from, many)) {
                        return word;
                    }
                    word++;
                    begin = k + 1;
                }
            }
            return -1;
        }

        private boolean isAt(String list, int begin, int from, int many) {
            for (int k = 0; k < many; k++) {
                if (list.charAt(begin + k) != byteAt(from + k)) {
                    return false;
                }
            }
            return true;
        }

        private int scanNumber(int count) {
            int from = next;
            tokenValue[count] = 0;
            boolean over = scanDigits(count);
            if (byteAt(next) == '.' && isDigit(byteAt(next + 1))) {
                next++;
                int point = next;
                over = scanDigits(count) || next - 1 - from > DIGITS_MOST;
                long number = Numbers.decimal(tokenValue[count], next - point);
                boolean isFloat = byteAt(next) == 'F';
                tokenArg[count] = isFloat ? FLOAT : DOUBLE;
                tokenValue[count] = isFloat ? Soft.toFloat(number) : number;
                next += isFloat ? 1 : 0;
            } else if (byteAt(next) == 'L') {
                tokenArg[count] = LONG;
                next++;
            } else {
                tokenArg[count] = INT;
                over = over || tokenValue[count] > Integer.MAX_VALUE;
            }
            return over ? NO_TOKEN : NUMBER;
        }

        /** Adds digits to the token's value; whether it goes beyond a long. */
        private boolean scanDigits(int count) {
            boolean over = false;
            while (next < length && isDigit(text[next])) {
                int digit = text[next] - '0';
                over = over || tokenValue[count] > (Long.MAX_VALUE - digit) / 10;
                tokenValue[count] = tokenValue[count] * 10 + digit;
                next++;
            }
            return over;
        }

        private int scanSign() {
            // From the last one on: the longer ones stand behind the shorter ones.
            for (int sign = RIGHT_EMPTY; sign >= 0; sign--) {
                int many = sign == RIGHT_EMPTY ? 3 : sign >= EITHER ? 2 : 1;
                if (isAt(SIGNS, 3 * sign, next, many)) {
                    next += many;
                    return sign;
                }
            }
            return NO_TOKEN;
        }

        private int kind() {
            return tokenKind[token];
        }

        /** Goes on to the next token; behind the last one there is none. */
        private void advance() {
            if (tokenKind[token] != TEXT_END && tokenKind[token] != NO_TOKEN) {
                token++;
            }
        }

        private boolean parseFunctions(int known) {
            for (int turn = 0; turn <= length; turn++) {
                if (kind() == TEXT_END) {
                    return true;
                }
                int f = program.count;
                if (program.born + f - known >= FUNCTIONS_MOST || !parseHead(f)) {
                    return false;
                }
                program.start[f] = program.length;
                if (!parseExpression(SEMICOLON)) {
                    return false;
                }
                program.emit(RETURN, 0, 0, 0, 0);
                program.count++;
                advance();
            }
            return false;
        }

        /** Whether the token is of a kind; then goes on to the next one. */
        private boolean took(int wanted) {
            if (tokenKind[token] != wanted) {
                return false;
            }
            advance();
            return true;
        }

        private boolean parseHead(int f) {
            program.resultLane[f] = tokenArg[token];
            if (!took(LANE_WORD)) {
                return false;
            }
            int many = tokenArg[token];
            program.nameAt[f] = tokenAt[token];
            program.nameLength[f] = many;
            if (!took(NAME)) {
                return false;
            }
            System.arraycopy(text, program.nameAt[f], program.names, f * LETTERS_MOST, many);
            if (!took(OPEN)) {
                return false;
            }
            for (int k = 0; k < PARAMETERS_MOST; k++) {
                if (!parseParameter(f, k)) {
                    return false;
                }
                if (took(CLOSE)) {
                    program.parameters[f] = k + 1;
                    return took(SET);
                }
                if (!took(COMMA)) {
                    return false;
                }
            }
            return false;
        }

        private boolean parseParameter(int f, int k) {
            int slot = f * PARAMETERS_MOST + k;
            program.parameterLane[slot] = tokenArg[token];
            if (!took(LANE_WORD)) {
                return false;
            }
            program.parameterAt[slot] = tokenAt[token];
            program.parameterLength[slot] = tokenArg[token];
            return took(NAME);
        }

        private boolean push(int newKind, int place, int newArg, int extra) {
            if (open >= openKind.length) {
                return false;
            }
            openKind[open] = newKind;
            openAt[open] = place;
            openArg[open] = newArg;
            openExtra[open] = extra;
            open++;
            if (levelOf(newKind) == 0) {
                depth++;
            }
            return true;
        }

        private int topKind() {
            return open > 0 ? openKind[open - 1] : TEXT_END;
        }

        private static int levelOf(int sign) {
            return sign >= 0 && sign < LEVELS.length ? LEVELS[sign] : 0;
        }

        /** Takes an expression up to the token that must end it; else the token at hand is the fault. */
        private boolean parseExpression(int ender) {
            open = 0;
            depth = 1;
            boolean operand = true;
            // Each turn takes at least one token.
            for (int turn = 0; turn <= TEXT_MOST; turn++) {
                if (operand) {
                    if (depth > DEPTH_MOST) {
                        return false;
                    }
                    int before = program.length;
                    if (!parseOperand()) {
                        return false;
                    }
                    operand = program.length == before;
                } else if (kind() == ender) {
                    closeDown();
                    return open == 0;
                } else if (kind() == CLOSE) {
                    if (!parseClose()) {
                        return false;
                    }
                } else {
                    if (!parseBetween()) {
                        return false;
                    }
                    operand = true;
                }
            }
            return false;
        }

        /** Takes what may begin an operand. Only a whole operand gives an instruction. */
        private boolean parseOperand() {
            int place = tokenAt[token];
            int arg = tokenArg[token];
            int begin = kind();
            switch (begin) {
                case NUMBER:
                    program.emit(NUMBER, place, 0, arg, tokenValue[token]);
                    advance();
                    closePrefixes();
                    return true;
                case NAME:
                    advance();
                    if (took(OPEN)) {
                        return push(CALL, place, 0, arg);
                    }
                    program.emit(NAME, place, arg, 0, 0);
                    closePrefixes();
                    return true;
                case OPEN:
                    advance();
                    return kind() == LANE_WORD ? parseCast(place) : push(OPEN, place, 0, 0);
                case SUBTRACT:
                    advance();
                    return push(NEGATE, place, 0, 0);
                case NOT:
                case INVERT:
                    advance();
                    return push(begin, place, 0, 0);
                default:
                    return false;
            }
        }

        /** The lane in a cast stands behind its ( and so is one deeper. */
        private boolean parseCast(int place) {
            int lane = tokenArg[token];
            if (depth >= DEPTH_MOST) {
                return false;
            }
            advance();
            return took(CLOSE) && push(CASTING, place, 0, lane);
        }

        private void closePrefixes() {
            int prefix = topKind();
            while (open > 0 && (prefix == NEGATE || prefix == NOT || prefix == INVERT || prefix == CASTING)) {
                open--;
                depth--;
                program.emit(prefix, openAt[open], 0, openExtra[open], 0);
                prefix = topKind();
            }
        }

        /** Closes what binds at least as tightly between two operands. */
        private void closeBinaries(int level) {
            while (open > 0 && levelOf(openKind[open - 1]) >= level) {
                open--;
                int sign = openKind[open];
                program.emit(sign, openAt[open], 0, 0, 0);
                if (sign == BOTH || sign == EITHER) {
                    program.arg[openArg[open]] = program.length;
                }
            }
        }

        /** Closes all that ends where an expression ends. */
        private void closeDown() {
            closeBinaries(1);
            while (open > 0 && topKind() == COLON) {
                open--;
                depth--;
                program.emit(CHOSEN, openAt[open], openArg[open], 0, 0);
                program.arg[openArg[open]] = program.length;
                closeBinaries(1);
            }
        }

        private boolean parseClose() {
            closeDown();
            int opened = topKind();
            if (opened != OPEN && opened != CALL) {
                return false;
            }
            open--;
            depth--;
            if (opened == CALL) {
                program.emit(CALL, openAt[open], openArg[open] + 1, openExtra[open], 0);
            }
            advance();
            closePrefixes();
            return true;
        }

        /** Takes a sign behind which another operand must stand. */
        private boolean parseBetween() {
            int sign = kind();
            int place = tokenAt[token];
            int level = levelOf(sign);
            boolean fine = false;
            if (level > 0) {
                closeBinaries(level);
                int test = program.length;
                if (sign == BOTH || sign == EITHER) {
                    program.emit(TEST, place, 0, sign, 0);
                }
                fine = push(sign, place, test, 0);
            } else if (sign == ASK) {
                closeBinaries(1);
                program.emit(ASK, place, 0, 0, 0);
                fine = push(ASK, place, program.length - 1, 0);
            } else if (sign == COLON) {
                closeDown();
                fine = topKind() == ASK && turnToOther();
            } else if (sign == COMMA) {
                closeDown();
                fine = topKind() == CALL;
                if (fine) {
                    openArg[open - 1]++;
                }
            }
            if (fine) {
                advance();
            }
            return fine;
        }

        /** The : of the ? on top: the first branch ends with a jump, the other one begins. */
        private boolean turnToOther() {
            program.emit(COLON, tokenAt[token], 0, 0, 0);
            program.arg[openArg[open - 1]] = program.length;
            openKind[open - 1] = COLON;
            openArg[open - 1] = program.length - 1;
            return true;
        }

        /** How many values an instruction takes from the stack; -1: it leaves the stack as it is. */
        private int taken(int k) {
            int op = program.op[k];
            switch (op) {
                case NUMBER:
                case NAME:
                    return 0;
                case TEST:
                case ASK:
                case COLON:
                    return -1;
                case CHOSEN:
                    return 3;
                case CALL:
                    return program.arg[k];
                default:
                    return levelOf(op) > 0 ? 2 : 1;
            }
        }

        private int heightOf(int from) {
            top = 0;
            for (int k = from; k < program.length && program.op[k] != RETURN; k++) {
                int many = taken(k);
                if (many >= 0) {
                    int height = 0;
                    for (int n = 0; n < many && top > 0; n++) {
                        top--;
                        height = Math.max(height, stack[top]);
                    }
                    stack[top] = height + 1;
                    top++;
                }
            }
            return stack[0];
        }

        private int checkFunction(int f) {
            faultAt = program.nameAt[f];
            if (wordIn(BUILT_INS, faultAt, program.nameLength[f]) >= 0 || program.isTwice(f) || !hasUnlikeParameters(f)) {
                return FAULT_2;
            }
            if (heightOf(program.start[f]) > HEIGHT_MOST || !check(program.start[f], f, null)) {
                return FAULT_2;
            }
            int lane = stack[0];
            if (!Numbers.fits(lane, program.resultLane[f])) {
                faultAt = program.nameAt[f];
                return FAULT_2;
            }
            int last = f + 1 < program.count ? program.start[f + 1] - 1 : program.length - 1;
            program.lanes[last] = lane | program.resultLane[f] << 4;
            return 0;
        }

        private boolean hasUnlikeParameters(int f) {
            for (int k = 1; k < program.parameters[f]; k++) {
                int slot = f * PARAMETERS_MOST + k;
                int first = parameterNamed(f, program.parameterAt[slot], program.parameterLength[slot]);
                if (first < k) {
                    faultAt = program.parameterAt[slot];
                    return false;
                }
            }
            return true;
        }

        /** The first parameter of the name that stands at a place of the text, -1 if there is none. */
        private int parameterNamed(int f, int place, int many) {
            for (int k = 0; k < program.parameters[f]; k++) {
                int slot = f * PARAMETERS_MOST + k;
                boolean same = program.parameterLength[slot] == many;
                for (int n = 0; same && n < many; n++) {
                    same = byteAt(program.parameterAt[slot] + n) == byteAt(place + n);
                }
                if (same) {
                    return k;
                }
            }
            return -1;
        }

        /**
         * Gives every instruction its lanes, in the order of the text. Function -1 is the formula.
         * A fault is at the instruction's place.
         */
        private boolean check(int from, int function, Grid[] bound) {
            top = 0;
            for (int k = from; k < program.length && program.op[k] != RETURN; k++) {
                int many = taken(k);
                if (many >= 0) {
                    top = Math.max(0, top - many);
                    int lane;
                    if (program.op[k] == NAME) {
                        lane = nameLane(k, function, bound);
                    } else {
                        lane = program.op[k] == CALL ? callLane(k, function) : laneOf(k);
                    }
                    if (lane < 0) {
                        faultAt = program.at[k];
                        return false;
                    }
                    stack[top] = lane;
                    top++;
                }
            }
            return true;
        }

        private int nameLane(int k, int function, Grid[] bound) {
            int place = program.at[k];
            if (function >= 0) {
                int parameter = parameterNamed(function, place, program.arg[k]);
                program.op[k] = PARAMETER;
                program.arg[k] = parameter;
                return parameter < 0 ? -1 : program.parameterLane[function * PARAMETERS_MOST + parameter];
            }
            int letter = program.arg[k] == 1 ? byteAt(place) : 0;
            if (letter >= 'i' && letter <= 'l') {
                program.op[k] = OF_INDEX;
                program.arg[k] = 'l' - letter;
                return INT;
            }
            int operand = letter - 'a';
            if (bound == null || operand < 0 || operand >= bound.length || bound[operand] == null) {
                return -1;
            }
            program.op[k] = OF_GRID;
            program.arg[k] = operand;
            usedGrids |= 1 << operand;
            return bound[operand].lane;
        }

        /** The lane of an instruction's result, -1 if its operands are not as they must be. */
        private int laneOf(int k) {
            int op = program.op[k];
            int first = stack[top];
            switch (op) {
                case NUMBER:
                    return program.lanes[k];
                case NOT:
                    return first == BOOLEAN ? BOOLEAN : -1;
                case NEGATE:
                    return noted(k, first, first, Numbers.isNumber(first) ? Math.max(INT, first) : -1);
                case INVERT:
                    return noted(k, first, first, Numbers.isWhole(first) ? Math.max(INT, first) : -1);
                case CASTING:
                    int other = program.lanes[k];
                    program.lanes[k] = first | other << 4;
                    return (first == BOOLEAN) == (other == BOOLEAN) ? other : -1;
                case CHOSEN:
                    return chosenLane(k, first, stack[top + 1], stack[top + 2]);
                default:
                    return betweenLane(k, op, first, stack[top + 1]);
            }
        }

        /** Notes the operands' lanes and the one in which an instruction works. */
        private int noted(int k, int first, int second, int work) {
            program.lanes[k] = first | second << 4 | (work & 15) << 8;
            return work;
        }

        private int chosenLane(int k, int asked, int first, int second) {
            boolean numbers = Numbers.isNumber(first) && Numbers.isNumber(second);
            if (asked != BOOLEAN || !numbers && first != second) {
                return -1;
            }
            int lane = first == second ? first : Numbers.wider(first, second);
            program.lanes[program.arg[k]] = first | lane << 4;
            program.lanes[k] = second | lane << 4;
            return lane;
        }

        private int betweenLane(int k, int op, int first, int second) {
            boolean booleans = first == BOOLEAN && second == BOOLEAN;
            boolean whole = Numbers.isWhole(first) && Numbers.isWhole(second);
            boolean numbers = Numbers.isNumber(first) && Numbers.isNumber(second);
            int wider = Numbers.wider(first, second);
            switch (levelOf(op)) {
                case 1:
                case 2:
                    return booleans ? BOOLEAN : -1;
                case 3:
                case 4:
                case 5:
                    return noted(k, first, second, booleans ? BOOLEAN : whole ? wider : -1);
                case 6:
                    return noted(k, first, second, booleans ? BOOLEAN : numbers ? wider : -1) < 0 ? -1 : BOOLEAN;
                case 7:
                    return noted(k, first, second, numbers ? wider : -1) < 0 ? -1 : BOOLEAN;
                case 8:
                    return noted(k, first, second, whole ? Math.max(INT, first) : -1);
                default:
                    return noted(k, first, second, numbers ? wider : -1);
            }
        }

        private int callLane(int k, int function) {
            int many = program.arg[k];
            int builtIn = wordIn(BUILT_INS, program.at[k], program.lanes[k]);
            if (builtIn >= 0) {
                program.op[k] = BUILT_IN;
                program.arg[k] = builtIn;
                return builtInLane(k, builtIn, many);
            }
            if (many > PARAMETERS_MOST) {
                return -1;
            }
            long argumentLanes = 0;
            for (int n = 0; n < many; n++) {
                argumentLanes |= (long) stack[top + n] << (4 * n);
            }
            int known = function >= 0 ? function : program.count;
            int chosen = program.choice(text, program.at[k], program.lanes[k], argumentLanes, many, known);
            program.arg[k] = chosen;
            program.value[k] = argumentLanes;
            return chosen < 0 ? -1 : program.resultLane[chosen];
        }

        private int builtInLane(int k, int which, int many) {
            boolean two = which >= MIN_OF && which <= MUL_EXACT;
            if (many != (two ? 2 : 1)) {
                return -1;
            }
            int first = stack[top];
            int second = two ? stack[top + 1] : first;
            boolean whole = which >= FLOOR_DIV && which <= HIGH_OF;
            boolean fine = whole ? Numbers.isWhole(first) && Numbers.isWhole(second)
                : Numbers.isNumber(first) && Numbers.isNumber(second);
            int work = which >= ROOT_OF ? DOUBLE : Numbers.wider(first, second);
            return noted(k, first, second, fine ? work : -1);
        }
    }

    /** Works out a formula's instructions, cell by cell, with a stack of its own. */
    private static final class Machine {
        private static final int STEPS_MOST = 400000;
        // Between two steps stand at most a call's arguments, jumps and returns.
        private static final int TURNS_MOST = 20000000;
        private static final int STACK_MOST = 8192;
        private static final int FRAME_MOST = 256;
        private static final int DONE = -1;
        final Grid[] bound = new Grid[8];
        int steps;
        private final Program program;
        private final Store store;
        private final Numbers numbers;
        private final int[] jump = new int[8 * AXES_MOST];
        private final int[] index = new int[AXES_MOST];
        private final long[] stack = new long[STACK_MOST];
        private int top;
        private final int[] returns = new int[FUNCTIONS_MOST + 1];
        private final int[] bases = new int[FUNCTIONS_MOST + 1];
        private int frames;
        private int base;
        private int failure;

        Machine(Program program, Store store, Numbers numbers) {
            this.program = program;
            this.store = store;
            this.numbers = numbers;
        }

        void forget() {
            for (int n = 0; n < bound.length; n++) {
                bound[n] = null;
            }
            steps = 0;
        }

        /** A new grid of the formula's results, or the refusal. */
        int run(int start, int usedGrids, int lane) {
            steps = 0;
            if (!joinShapes(usedGrids)) {
                return -SIZES;
            }
            long cells = store.shapeCells();
            if (cells > CELLS_MOST) {
                return -NO_ROOM;
            }
            store.needWork((int) cells);
            Arrays.fill(index, 0);
            numbers.bad = false;
            failure = 0;
            for (int n = 0; n < cells; n++) {
                int at = start;
                top = 0;
                base = 0;
                frames = 0;
                for (int turn = 0; at >= 0 && turn < TURNS_MOST; turn++) {
                    at = obey(at);
                }
                if (failure != 0) {
                    store.failAt(n);
                    return -failure;
                }
                store.work[n] = stack[0];
                nextIndex();
            }
            return store.addFromWork(lane, 0);
        }

        private boolean joinShapes(int usedGrids) {
            Arrays.fill(store.shape, 1);
            store.shapeAxes = 0;
            for (int n = 0; n < bound.length; n++) {
                Grid grid = bound[n];
                if ((usedGrids >> n & 1) == 0 || grid == null) {
                    continue;
                }
                store.shapeAxes = Math.max(store.shapeAxes, grid.axes);
                for (int p = 0; p < AXES_MOST; p++) {
                    int size = grid.size[p];
                    jump[n * AXES_MOST + p] = size == 1 ? 0 : grid.step[p];
                    if (store.shape[p] == 1) {
                        store.shape[p] = size;
                    } else if (size != 1 && size != store.shape[p]) {
                        return false;
                    }
                }
            }
            return true;
        }

        private void nextIndex() {
            for (int p = AXES_MOST - 1; p >= 0; p--) {
                index[p]++;
                if (index[p] < store.shape[p]) {
                    return;
                }
                index[p] = 0;
            }
        }

        /** Obeys one instruction: where to go on, or DONE. */
        private int obey(int at) {
            int op = program.op[at];
            int arg = program.arg[at];
            switch (op) {
                case NUMBER:
                    return pushed(at, program.value[at]);
                case OF_GRID:
                    return pushed(at, gridCell(arg));
                case OF_INDEX:
                    return pushed(at, index[arg]);
                case PARAMETER:
                    return pushed(at, stack[base + arg]);
                case COLON:
                    widenTop(at);
                    return arg;
                case CHOSEN:
                    widenTop(at);
                    return at + 1;
                case BOTH:
                case EITHER:
                    return at + 1;
                case RETURN:
                    widenTop(at);
                    return back();
                case HALT:
                    return DONE;
                default:
                    break;
            }
            if (steps >= STEPS_MOST) {
                failure = TOO_LONG;
                return DONE;
            }
            steps++;
            if (op == TEST || op == ASK) {
                return decided(at, op);
            }
            if (op == CALL) {
                return called(at, arg);
            }
            if (op < LEVELS.length && LEVELS[op] > 0) {
                between(at, op);
            } else {
                alone(at, op, arg);
            }
            if (numbers.bad) {
                failure = FAILS;
                return DONE;
            }
            return at + 1;
        }

        private int pushed(int at, long value) {
            stack[top] = value;
            top++;
            return at + 1;
        }

        private long gridCell(int operand) {
            Grid grid = bound[operand];
            if (grid == null) {
                return 0;
            }
            int spot = grid.from;
            for (int p = 0; p < AXES_MOST; p++) {
                spot += index[p] * jump[operand * AXES_MOST + p];
            }
            return store.cells[spot];
        }

        private void widenTop(int at) {
            int lanes = program.lanes[at];
            stack[top - 1] = Numbers.widened(lanes & 15, lanes >> 4 & 15, stack[top - 1]);
        }

        private int back() {
            if (frames == 0) {
                return DONE;
            }
            frames--;
            stack[base] = stack[top - 1];
            top = base + 1;
            base = bases[frames];
            return returns[frames];
        }

        /** After the first operand of && || ?: what is worked out next. */
        private int decided(int at, int op) {
            boolean truth = stack[top - 1] != 0;
            if (op == TEST && truth == (program.lanes[at] == EITHER)) {
                return program.arg[at];
            }
            top--;
            return op == ASK && !truth ? program.arg[at] : at + 1;
        }

        private int called(int at, int function) {
            int many = program.parameters[function];
            if (frames >= returns.length || top + FRAME_MOST > STACK_MOST) {
                failure = TOO_LONG;
                return DONE;
            }
            for (int k = 0; k < many; k++) {
                int lane = (int) (program.value[at] >>> (4 * k)) & 15;
                int slot = top - many + k;
                stack[slot] = Numbers.widened(lane, program.parameterLane[function * PARAMETERS_MOST + k], stack[slot]);
            }
            returns[frames] = at + 1;
            bases[frames] = base;
            frames++;
            base = top - many;
            return program.start[function];
        }

        /** An operator between two operands. */
        private void between(int at, int op) {
            int lanes = program.lanes[at];
            int work = lanes >> 8 & 15;
            top--;
            long a = Numbers.widened(lanes & 15, work, stack[top - 1]);
            long b = stack[top];
            long result;
            switch (LEVELS[op]) {
                case 3:
                    result = a | b;
                    break;
                case 4:
                    result = a ^ b;
                    break;
                case 5:
                    result = a & b;
                    break;
                case 6:
                case 7:
                    int order = Numbers.compare(work, a, Numbers.widened(lanes >> 4 & 15, work, b));
                    result = isSo(op, order) ? 1 : 0;
                    break;
                case 8:
                    result = Numbers.shifted(op, work, a, b);
                    break;
                default:
                    b = Numbers.widened(lanes >> 4 & 15, work, b);
                    result = work < FLOAT ? numbers.wholeResult(op, work, a, b) : numbers.floatResult(op, work, a, b);
                    break;
            }
            stack[top - 1] = result;
        }

        private static boolean isSo(int op, int order) {
            switch (op) {
                case EQUAL: return order == 0;
                case UNLIKE: return order != 0;
                case LESS: return order < 0;
                case MORE: return order > 0;
                case AT_MOST: return order <= 0;
                default: return order >= 0;
            }
        }

        /** A sign before its operand, a cast, or a built-in function. */
        private void alone(int at, int op, int which) {
            int lanes = program.lanes[at];
            int lane = lanes & 15;
            int work = lanes >> 8 & 15;
            if (op == BUILT_IN) {
                long b = 0;
                if (which >= MIN_OF && which <= MUL_EXACT) {
                    top--;
                    b = Numbers.widened(lanes >> 4 & 15, work, stack[top]);
                }
                stack[top - 1] = numbers.builtIn(which, work, Numbers.widened(lane, work, stack[top - 1]), b);
                return;
            }
            long a = stack[top - 1];
            if (op == CASTING) {
                stack[top - 1] = Numbers.plainCast(lane, lanes >> 4 & 15, a);
            } else if (op == NEGATE) {
                stack[top - 1] = Numbers.negated(work, a);
            } else {
                stack[top - 1] = op == NOT ? 1 - a : ~a;
            }
        }
    }

    /** Folds, orders, groups and joins. */
    private static final class Folds {
        static final int SUM = 0;
        static final int EXACT_SUM = 1;
        static final int PRODUCT = 2;
        static final int LEAST = 3;
        static final int GREATEST = 4;
        static final int COUNT = 5;
        static final int ALL = 6;
        static final int ANY = 7;
        static final int PAIRED_SUM = 8;
        private static final int HALVINGS_MOST = 20;
        private static final int PAIRS_MOST = 4096;
        private final Store store;
        private final Numbers numbers;
        private final long[] keys = new long[SIZE_MOST];
        private int[] places = new int[SIZE_MOST];
        private int[] spare = new int[SIZE_MOST];

        Folds(Store store, Numbers numbers) {
            this.store = store;
            this.numbers = numbers;
        }

        /** The lane of a fold's result, -1 if it does not take the lane. */
        private static int foldLane(int way, int lane) {
            switch (way) {
                case SUM:
                case PRODUCT:
                    return Numbers.isNumber(lane) ? Math.max(INT, lane) : -1;
                case EXACT_SUM:
                    return Numbers.isWhole(lane) ? Math.max(INT, lane) : -1;
                case LEAST:
                case GREATEST:
                    return Numbers.isNumber(lane) ? lane : -1;
                case PAIRED_SUM:
                    return lane >= FLOAT ? lane : -1;
                case COUNT:
                    return lane == BOOLEAN ? INT : -1;
                default:
                    return lane == BOOLEAN ? BOOLEAN : -1;
            }
        }

        private static long startOf(int way, int lane) {
            if (way == PRODUCT) {
                return Numbers.one(lane);
            }
            return way == ALL ? 1 : 0;
        }

        /** The fold with one more value. */
        private long combined(int way, int lane, boolean first, long so, long value) {
            switch (way) {
                case SUM:
                    return lane < FLOAT ? numbers.wholeResult(ADD, lane, so, value)
                        : numbers.floatResult(ADD, lane, so, value);
                case EXACT_SUM:
                    return numbers.exactResult(ADD_EXACT, lane, so, value);
                case PRODUCT:
                    return lane < FLOAT ? numbers.wholeResult(MULTIPLY, lane, so, value)
                        : numbers.floatResult(MULTIPLY, lane, so, value);
                case LEAST:
                    return first || Numbers.order(lane, value) < Numbers.order(lane, so) ? value : so;
                case GREATEST:
                    return first || Numbers.order(lane, value) > Numbers.order(lane, so) ? value : so;
                case COUNT:
                    return so + value;
                case ALL:
                    return so & value;
                default:
                    return so | value;
            }
        }

        /** The fold of the first values of the line. */
        private long foldedLine(int way, int lane, int many) {
            if (way == PAIRED_SUM) {
                return pairedSum(lane, 0, many, 0);
            }
            long so = startOf(way, lane);
            for (int n = 0; n < many && !numbers.bad; n++) {
                so = combined(way, lane, n == 0, so, store.line[n]);
            }
            return so;
        }

        private long pairedSum(int lane, int from, int many, int halvings) {
            if (many <= 0 || halvings > HALVINGS_MOST) {
                return 0;
            }
            if (many == 1) {
                return store.line[from];
            }
            int half = many / 2;
            long first = pairedSum(lane, from, half, halvings + 1);
            long second = pairedSum(lane, from + half, many - half, halvings + 1);
            return numbers.floatResult(ADD, lane, first, second);
        }

        int folded(Grid grid, int way, int axis) {
            int lane = foldLane(way, grid.lane);
            if (lane < 0) {
                return -UNFIT;
            }
            if (axis >= grid.axes) {
                return -NO_SPOT;
            }
            int many = axis < 0 ? grid.count : grid.size[grid.position(axis)];
            shapeWithout(grid, axis);
            long cells = store.shapeCells();
            if (many == 0 && cells > 0 && (way == LEAST || way == GREATEST)) {
                store.failAt(0);
                return -OF_NONE;
            }
            if (cells > CELLS_MOST) {
                return -NO_ROOM;
            }
            store.needWork((int) cells);
            numbers.bad = false;
            if (axis < 0) {
                store.valuesToLine(grid);
            }
            for (int n = 0; n < cells; n++) {
                if (axis >= 0) {
                    axisToLine(grid, grid.position(axis), n);
                }
                store.work[n] = foldedLine(way, lane, many);
                if (numbers.bad) {
                    store.failAt(n);
                    return -FAILS;
                }
            }
            return store.addFromWork(lane, 0);
        }

        private void shapeWithout(Grid grid, int axis) {
            store.shapeLike(grid);
            if (axis < 0) {
                Arrays.fill(store.shape, 1);
                store.shapeAxes = 0;
                return;
            }
            for (int p = grid.position(axis); p > 0; p--) {
                store.shape[p] = store.shape[p - 1];
            }
            store.shape[0] = 1;
            store.shapeAxes = grid.axes - 1;
        }

        /** Fills the line with the cells along an axis that make cell n of the result. */
        private void axisToLine(Grid grid, int position, int n) {
            int many = grid.size[position];
            store.needLine(many);
            int spot = grid.from;
            int rest = n;
            for (int p = AXES_MOST - 1; p >= 0; p--) {
                if (p != position && grid.size[p] > 0) {
                    spot += rest % grid.size[p] * grid.step[p];
                    rest /= grid.size[p];
                }
            }
            for (int k = 0; k < many; k++) {
                store.line[k] = store.cells[spot];
                spot += grid.step[position];
            }
        }

        /** Running folds: each cell goes on from the one before it, which stands before it in row order. */
        int foldedOn(Grid grid, int way, int axis) {
            int lane = foldLane(way, grid.lane);
            if (lane < 0) {
                return -UNFIT;
            }
            if (axis >= grid.axes) {
                return -NO_SPOT;
            }
            int apart = 1;
            int many = Math.max(1, grid.count);
            if (axis >= 0) {
                many = Math.max(1, grid.size[grid.position(axis)]);
                for (int p = grid.position(axis) + 1; p < AXES_MOST; p++) {
                    apart = Math.max(1, apart * grid.size[p]);
                }
            }
            store.shapeLike(grid);
            store.needWork(grid.count);
            store.valuesToLine(grid);
            numbers.bad = false;
            for (int n = 0; n < grid.count; n++) {
                boolean first = n / apart % many == 0;
                long so = first ? startOf(way, lane) : store.work[n - apart];
                store.work[n] = combined(way, lane, first, so, store.line[n]);
                if (numbers.bad) {
                    store.failAt(n);
                    return -FAILS;
                }
            }
            return store.addFromWork(lane, 0);
        }

        /** Puts the places of a grid's cells into rising order, equal ones as they stand. */
        private void order(Grid grid, boolean falling) {
            int many = grid.count;
            int spot = grid.from;
            for (int n = 0; n < many; n++) {
                long key = Numbers.order(grid.lane, store.cells[spot]);
                keys[n] = falling ? ~key : key;
                places[n] = n;
                spot += grid.step[3];
            }
            for (int run = 1; run < many; run *= 2) {
                for (int from = 0; from < many; from += 2 * run) {
                    merge(from, Math.min(from + run, many), Math.min(from + 2 * run, many));
                }
                int[] merged = spare;
                spare = places;
                places = merged;
            }
        }

        private void merge(int from, int middle, int to) {
            int left = from;
            int right = middle;
            for (int n = from; n < to; n++) {
                if (right >= to || left < middle && keys[places[left]] <= keys[places[right]]) {
                    spare[n] = places[left];
                    left++;
                } else {
                    spare[n] = places[right];
                    right++;
                }
            }
        }

        int inOrder(Grid grid, boolean falling) {
            order(grid, falling);
            store.needWork(grid.count);
            for (int n = 0; n < grid.count; n++) {
                store.work[n] = places[n];
            }
            store.shapeRow(grid.count);
            return store.addFromWork(INT, 0);
        }

        int countBefore(Grid grid, long bits) {
            long key = Numbers.order(grid.lane, bits);
            int spot = grid.from;
            int before = 0;
            for (int n = 0; n < grid.count; n++) {
                if (Numbers.order(grid.lane, store.cells[spot]) < key) {
                    before++;
                }
                spot += grid.step[3];
            }
            return before;
        }

        int grouped(Grid first, Grid second, int way) {
            int lane = foldLane(way, second.lane);
            if (first.axes != 1 || second.axes != 1 || lane < 0) {
                return -UNFIT;
            }
            if (first.count != second.count) {
                return -SIZES;
            }
            int many = first.count;
            order(first, false);
            store.needWork(2 * many);
            numbers.bad = false;
            int groups = 0;
            for (int n = 0; n < many; n++) {
                boolean begins = n == 0 || keys[places[n]] != keys[places[n - 1]];
                if (begins) {
                    store.work[groups] = store.cells[first.from + places[n] * first.step[3]];
                    store.work[many + groups] = startOf(way, lane);
                    groups++;
                }
                int slot = many + groups - 1;
                long value = store.cells[second.from + places[n] * second.step[3]];
                store.work[slot] = combined(way, lane, begins, store.work[slot], value);
            }
            if (numbers.bad) {
                return -FAILS;
            }
            if (!store.hasRoom(2, 2 * groups)) {
                return -NO_ROOM;
            }
            store.shapeRow(groups);
            int number = store.addFromWork(first.lane, 0);
            store.addFromWork(lane, many);
            return number;
        }

        /** The first of the ordered places whose key is not below one. */
        private int lowest(long key, int many) {
            int low = 0;
            int high = many;
            while (low < high) {
                int middle = (low + high) / 2;
                if (keys[places[middle]] < key) {
                    low = middle + 1;
                } else {
                    high = middle;
                }
            }
            return low;
        }

        int paired(Grid first, Grid second) {
            order(second, false);
            store.needWork(2 * PAIRS_MOST);
            int pairs = 0;
            int spot = first.from;
            for (int n = 0; n < first.count; n++) {
                long key = Numbers.order(first.lane, store.cells[spot]);
                int k = lowest(key, second.count);
                for (; k < second.count && keys[places[k]] == key; k++) {
                    if (pairs == PAIRS_MOST) {
                        return -NO_ROOM;
                    }
                    store.work[2 * pairs] = n;
                    store.work[2 * pairs + 1] = places[k];
                    pairs++;
                }
                spot += first.step[3];
            }
            store.shapeMatrix(pairs, 2);
            return store.addFromWork(INT, 0);
        }
    }

    /** Products, exact solutions and transforms over residues. */
    private static final class Matrices {
        private static final int TERMS_MOST = 1000000;
        private static final int ROWS_MOST = 10;
        private static final int VALUES = ROWS_MOST + 1;
        private static final int LIMBS = ROWS_MOST + 2;
        private static final int LIMB_DIGITS = 32;
        private static final long LIMB_MASK = 0xffffffffL;
        private static final int PRIME_MOST = 1000000007;
        private static final int TRANSFORM_MOST = 1024;
        /**
         * The greatest primes below 2^31. A determinant of n rows of ints is less than half of the
         * product of n + 1 of them, and so at most n of them divide it if it is not 0.
         */
        private static final int[] PRIMES = {
            2147483647, 2147483629, 2147483587, 2147483579, 2147483563, 2147483549, 2147483543,
            2147483497, 2147483489, 2147483477, 2147483423, 2147483399, 2147483353, 2147483323,
            2147483269, 2147483249, 2147483237, 2147483179, 2147483171, 2147483137, 2147483123
        };
        private final Store store;
        private final Numbers numbers;
        private final long[] matrix = new long[ROWS_MOST * VALUES];
        // Of the determinant (0) and the numerators (from 1 on) the rests, later the digits, by primes.
        private final long[] rests = new long[VALUES * VALUES];
        private final int[] chosen = new int[VALUES];
        private int limbs;
        private final long[] modulus = new long[LIMBS];
        private final long[] below = new long[LIMBS];
        private final long[] above = new long[LIMBS];
        private final long[] odd = new long[LIMBS];
        private final long[] other = new long[LIMBS];
        private long quotient;

        Matrices(Store store, Numbers numbers) {
            this.store = store;
            this.numbers = numbers;
        }

        int multiplied(Grid first, Grid second) {
            if (first.axes != 2 || second.axes != 2 || first.lane == BOOLEAN || second.lane == BOOLEAN) {
                return -UNFIT;
            }
            int middle = first.size[3];
            if (second.size[2] != middle) {
                return -SIZES;
            }
            int rows = first.size[2];
            int columns = second.size[3];
            if ((long) rows * middle * columns > TERMS_MOST || (long) rows * columns > CELLS_MOST) {
                return -NO_ROOM;
            }
            int lane = Numbers.wider(first.lane, second.lane);
            store.shapeMatrix(rows, columns);
            store.needWork(rows * columns);
            numbers.bad = false;
            for (int n = 0; n < rows * columns; n++) {
                store.work[n] = oneProduct(first, second, lane, n / columns, n % columns);
                if (numbers.bad) {
                    store.failAt(n);
                    return -FAILS;
                }
            }
            return store.addFromWork(lane, 0);
        }

        private long oneProduct(Grid first, Grid second, int lane, int row, int column) {
            int left = first.from + row * first.step[2];
            int right = second.from + column * second.step[3];
            long sum = 0;
            for (int k = 0; k < first.size[3] && !numbers.bad; k++) {
                long a = Numbers.widened(first.lane, lane, store.cells[left]);
                long b = Numbers.widened(second.lane, lane, store.cells[right]);
                if (lane < FLOAT) {
                    sum = numbers.wholeResult(ADD, lane, sum, a * b);
                } else {
                    sum = numbers.floatResult(ADD, lane, sum, numbers.floatResult(MULTIPLY, lane, a, b));
                }
                left += first.step[3];
                right += second.step[2];
            }
            return sum;
        }

        private static long power(long number, long exponent, long p) {
            long result = 1;
            long square = number;
            for (long rest = exponent; rest > 0; rest >>= 1) {
                if ((rest & 1) == 1) {
                    result = result * square % p;
                }
                square = square * square % p;
            }
            return result;
        }

        int solved(Grid first, Grid second) {
            if (first.axes != 2 || second.axes != 1 || !isSmall(first.lane) || !isSmall(second.lane)) {
                return -UNFIT;
            }
            int n = first.size[2];
            if (n < 1 || n > ROWS_MOST) {
                return -UNFIT;
            }
            if (first.size[3] != n || second.size[3] != n) {
                return -SIZES;
            }
            if (!findRests(first, second, n)) {
                return -NOT_ONE;
            }
            findDigits(n);
            store.needWork(2 * n);
            store.shapeRow(n);
            for (int row = 0; row < n; row++) {
                if (!findFraction(n, row)) {
                    store.failAt(row);
                    return -FAILS;
                }
            }
            if (!store.hasRoom(2, 2 * n)) {
                return -NO_ROOM;
            }
            int number = store.addFromWork(LONG, 0);
            store.addFromWork(LONG, n);
            return number;
        }

        private static boolean isSmall(int lane) {
            return lane >= BYTE && lane <= INT;
        }

        /** Determinant and numerators modulo n + 1 primes; false if the determinant is 0. */
        private boolean findRests(Grid first, Grid second, int n) {
            int found = 0;
            for (int k = 0; k < PRIMES.length && found <= n; k++) {
                long p = PRIMES[k];
                load(first, second, n, p);
                long determinant = eliminated(n, p);
                if (determinant != 0) {
                    chosen[found] = PRIMES[k];
                    rests[found] = determinant;
                    for (int row = 0; row < n; row++) {
                        rests[(row + 1) * VALUES + found] = matrix[row * VALUES + n] * determinant % p;
                    }
                    found++;
                }
            }
            return found > n;
        }

        private void load(Grid first, Grid second, int n, long p) {
            for (int row = 0; row < n; row++) {
                for (int column = 0; column < n; column++) {
                    int spot = first.from + row * first.step[2] + column * first.step[3];
                    matrix[row * VALUES + column] = Math.floorMod(store.cells[spot], p);
                }
                matrix[row * VALUES + n] = Math.floorMod(store.cells[second.from + row * second.step[3]], p);
            }
        }

        /** Turns the last column into the solution modulo p; the determinant, 0 if there is none. */
        private long eliminated(int n, long p) {
            long determinant = 1;
            for (int k = 0; k < n; k++) {
                int pivot = k;
                while (pivot < n && matrix[pivot * VALUES + k] == 0) {
                    pivot++;
                }
                if (pivot == n) {
                    return 0;
                }
                if (pivot != k) {
                    determinant = p - determinant;
                    exchangeRows(n, k, pivot);
                }
                long head = matrix[k * VALUES + k];
                determinant = determinant * head % p;
                long inverse = power(head, p - 2, p);
                for (int column = k; column <= n; column++) {
                    matrix[k * VALUES + column] = matrix[k * VALUES + column] * inverse % p;
                }
                for (int row = 0; row < n; row++) {
                    if (row != k && matrix[row * VALUES + k] != 0) {
                        takeRow(n, k, row, p);
                    }
                }
            }
            return determinant;
        }

        private void exchangeRows(int n, int k, int row) {
            for (int column = 0; column <= n; column++) {
                long held = matrix[k * VALUES + column];
                matrix[k * VALUES + column] = matrix[row * VALUES + column];
                matrix[row * VALUES + column] = held;
            }
        }

        private void takeRow(int n, int k, int row, long p) {
            long factor = p - matrix[row * VALUES + k];
            for (int column = k; column <= n; column++) {
                int slot = row * VALUES + column;
                matrix[slot] = (matrix[slot] + factor * matrix[k * VALUES + column]) % p;
            }
        }

        /** Turns rests into digits: a value is d0 + p0 * (d1 + p1 * (d2 + ..)). */
        private void findDigits(int n) {
            for (int k = 1; k <= n; k++) {
                long p = chosen[k];
                for (int j = 0; j < k; j++) {
                    long inverse = power(chosen[j] % p, p - 2, p);
                    for (int v = 0; v <= n; v++) {
                        long left = Math.floorMod(rests[v * VALUES + k] - rests[v * VALUES + j], p);
                        rests[v * VALUES + k] = left * inverse % p;
                    }
                }
            }
            limbs = n + 2;
            Arrays.fill(modulus, 0L);
            modulus[0] = 1;
            for (int k = 0; k <= n; k++) {
                multiplyAdd(modulus, chosen[k], 0);
            }
        }

        private void multiplyAdd(long[] big, long factor, long more) {
            long carry = more;
            for (int k = 0; k < limbs; k++) {
                carry += big[k] * factor;
                big[k] = carry & LIMB_MASK;
                carry >>>= LIMB_DIGITS;
            }
        }

        /** Makes a value's size out of its digits; whether the value is below 0. */
        private boolean assemble(int v, int n, long[] big) {
            Arrays.fill(big, 0L);
            for (int k = n; k >= 0; k--) {
                multiplyAdd(big, k == n ? 1 : chosen[k], rests[v * VALUES + k]);
            }
            System.arraycopy(modulus, 0, other, 0, LIMBS);
            subtract(other, big);
            if (compareBig(big, other) <= 0) {
                return false;
            }
            System.arraycopy(other, 0, big, 0, LIMBS);
            return true;
        }

        private int compareBig(long[] x, long[] y) {
            for (int k = limbs - 1; k >= 0; k--) {
                if (x[k] != y[k]) {
                    return x[k] < y[k] ? -1 : 1;
                }
            }
            return 0;
        }

        /** Takes the lesser one from the greater one. */
        private void subtract(long[] greater, long[] lesser) {
            long borrow = 0;
            for (int k = 0; k < limbs; k++) {
                long left = greater[k] - lesser[k] - borrow;
                greater[k] = left & LIMB_MASK;
                borrow = left < 0 ? 1 : 0;
            }
        }

        private int widthOf(long[] big) {
            for (int k = limbs - 1; k >= 0; k--) {
                if (big[k] != 0) {
                    return k * LIMB_DIGITS + Soft.width(big[k]);
                }
            }
            return 0;
        }

        /** How many digits 0 stand at the low end. */
        private int lowZeros(long[] big) {
            for (int k = 0; k < limbs; k++) {
                if (big[k] != 0) {
                    return k * LIMB_DIGITS + Soft.width(big[k] & -big[k]) - 1;
                }
            }
            return 0;
        }

        private void shiftRight(long[] big, int by) {
            int whole = by / LIMB_DIGITS;
            int part = by % LIMB_DIGITS;
            for (int k = 0; k < limbs; k++) {
                long low = k + whole < limbs ? big[k + whole] : 0;
                long high = k + whole + 1 < limbs ? big[k + whole + 1] : 0;
                big[k] = (low | high << LIMB_DIGITS) >>> part & LIMB_MASK;
            }
        }

        private void shiftLeft(long[] big, int by) {
            int whole = by / LIMB_DIGITS;
            int part = by % LIMB_DIGITS;
            for (int k = limbs - 1; k >= 0; k--) {
                long high = k - whole >= 0 ? big[k - whole] : 0;
                long low = k - whole - 1 >= 0 ? big[k - whole - 1] : 0;
                big[k] = (high << LIMB_DIGITS | low) << part >>> LIMB_DIGITS & LIMB_MASK;
            }
        }

        /** Puts a row's numerator and denominator in lowest terms into the work row, if they fit a long. */
        private boolean findFraction(int n, int row) {
            boolean minus = assemble(row + 1, n, above) != assemble(0, n, below);
            if (widthOf(above) == 0) {
                store.work[row] = 0;
                store.work[n + row] = 1;
                return true;
            }
            int twos = Math.min(lowZeros(above), lowZeros(below));
            shiftRight(above, twos);
            shiftRight(below, twos);
            findOddDivisor();
            if (!divide(above) || quotient < 0 && !(minus && quotient == Long.MIN_VALUE)) {
                return false;
            }
            store.work[row] = minus ? -quotient : quotient;
            if (!divide(below) || quotient < 0) {
                return false;
            }
            store.work[n + row] = quotient;
            return true;
        }

        /** The greatest odd number that divides both; one of them is odd by now. */
        private void findOddDivisor() {
            System.arraycopy(above, 0, odd, 0, LIMBS);
            System.arraycopy(below, 0, other, 0, LIMBS);
            shiftRight(odd, lowZeros(odd));
            shiftRight(other, lowZeros(other));
            int order = compareBig(odd, other);
            // Each turn takes at least one digit from the two together.
            for (int turn = 0; order != 0 && turn < 2 * LIMBS * LIMB_DIGITS; turn++) {
                long[] greater = order > 0 ? odd : other;
                subtract(greater, order > 0 ? other : odd);
                shiftRight(greater, lowZeros(greater));
                order = compareBig(odd, other);
            }
        }

        /** Divides by the odd divisor, without a rest; false if the quotient has more than 64 digits. */
        private boolean divide(long[] big) {
            int more = widthOf(big) - widthOf(odd);
            if (more > 63) {
                return false;
            }
            System.arraycopy(odd, 0, other, 0, LIMBS);
            shiftLeft(other, Math.max(0, more));
            quotient = 0;
            for (int k = more; k >= 0; k--) {
                if (compareBig(big, other) >= 0) {
                    subtract(big, other);
                    quotient |= 1L << k;
                }
                shiftRight(other, 1);
            }
            return true;
        }

        int transformed(Grid grid, int p, boolean back) {
            int n = grid.axes == 1 ? grid.count : 0;
            boolean fine = n >= 1 && n <= TRANSFORM_MOST && (n & n - 1) == 0 && Numbers.isWhole(grid.lane);
            if (!fine || !isPrime(p) || (p - 1) % n != 0) {
                return -UNFIT;
            }
            long w = rootOfOne(n, p);
            if (back) {
                w = power(w, p - 2, p);
            }
            store.needWork(n);
            int spot = grid.from;
            int turnedOver = 0;
            for (int j = 0; j < n; j++) {
                store.work[turnedOver] = Math.floorMod(store.cells[spot], (long) p);
                spot += grid.step[3];
                int bit = n >> 1;
                while (bit > 0 && (turnedOver & bit) != 0) {
                    turnedOver ^= bit;
                    bit >>= 1;
                }
                turnedOver |= bit;
            }
            for (int half = 1; half < n; half *= 2) {
                butterflies(n, half, power(w, n / (2 * half), p), p);
            }
            long scale = back ? power(n, p - 2, p) : 1;
            for (int k = 0; k < n; k++) {
                store.work[k] = store.work[k] * scale % p;
            }
            store.shapeRow(n);
            return store.addFromWork(LONG, 0);
        }

        private static boolean isPrime(int p) {
            if (p < 3 || p > PRIME_MOST || p % 2 == 0) {
                return false;
            }
            for (int d = 3; d * d <= p; d += 2) {
                if (p % d == 0) {
                    return false;
                }
            }
            return true;
        }

        private static long rootOfOne(int n, int p) {
            if (n == 1) {
                return 1;
            }
            for (int h = 2; h < p; h++) {
                long w = power(h, (p - 1) / n, p);
                if (power(w, n / 2, p) == p - 1) {
                    return w;
                }
            }
            return 1;
        }

        /** Joins transforms of a size into those of twice that size. */
        private void butterflies(int n, int half, long w, long p) {
            for (int from = 0; from < n; from += 2 * half) {
                long turn = 1;
                for (int j = from; j < from + half; j++) {
                    long first = store.work[j];
                    long second = store.work[j + half] * turn % p;
                    store.work[j] = (first + second) % p;
                    store.work[j + half] = (first - second + p) % p;
                    turn = turn * w % p;
                }
            }
        }
    }

    /** Tables: all their cells stand in one row of bytes, in the order in which they came. */
    private static final class Tables {
        private static final int NAMES_MOST = 16;
        private static final int LINES_MOST = 500;
        private static final int CELL_MOST = 40;
        private static final int TEXTS_MOST = 65536;
        private static final int INT_DIGITS = 10;
        private static final int LONG_DIGITS = 19;
        private static final int DOUBLE_DIGITS = 15;
        private static final int ALL_LANES = 1 << BOOLEAN | 1 << INT | 1 << LONG | 1 << DOUBLE;
        int faultAt;
        final int[] width = new int[TABLES_MOST + 1];
        final int[] height = new int[TABLES_MOST + 1];
        private final Store store;
        private final int[] first = new int[TABLES_MOST + 1];
        private final int[] lanes = new int[(TABLES_MOST + 1) * NAMES_MOST];
        private int made;
        private int lost;
        private int textBytes;
        private byte[] data = new byte[256];
        private int[] start = new int[64];
        private byte[] inQuotes = new byte[64];
        private int cellCount;
        private byte[] text = new byte[0];
        private int length;
        private int next;
        // The number in the cell looked at last: its digits taken below 0, so that all longs fit.
        private long number;
        private int digits;
        private int behind;
        private final int[] words = new int[LINES_MOST];

        Tables(Store store) {
            this.store = store;
        }

        boolean has(int t) {
            return t > lost && t <= made;
        }

        void forget() {
            lost = made;
        }

        int laneOf(int t, int c) {
            return lanes[t * NAMES_MOST + c];
        }

        private void need(int bytes, int cells) {
            int dataNeed = start[cellCount] + bytes;
            if (dataNeed > data.length) {
                data = Arrays.copyOf(data, Math.max(dataNeed, 2 * data.length));
            }
            int cellNeed = cellCount + cells + 1;
            if (cellNeed > start.length) {
                int room = Math.max(cellNeed, 2 * start.length);
                start = Arrays.copyOf(start, room);
                inQuotes = Arrays.copyOf(inQuotes, room);
            }
        }

        /** The number of the table that a text tells, or the refusal. */
        int taken(byte[] source, int sourceLength) {
            int mark = cellCount;
            text = source;
            length = sourceLength;
            next = 0;
            // Each cell but the last one has a byte behind it.
            need(sourceLength, sourceLength + 1);
            int columns = readLine(0);
            int lines = 1;
            while (columns > 0 && next < length && lines < LINES_MOST) {
                columns = readLine(columns) > 0 ? columns : 0;
                lines++;
            }
            if (columns > 0 && next < length) {
                faultAt = next;
                columns = 0;
            }
            if (columns > 0 && made < TABLES_MOST && textBytes + sourceLength <= TEXTS_MOST) {
                return added(mark, columns, lines - 1, sourceLength);
            }
            cellCount = mark;
            return columns > 0 ? -NO_ROOM : -FAULT;
        }

        private int added(int mark, int columns, int rows, int bytes) {
            made++;
            first[made] = mark;
            width[made] = columns;
            height[made] = rows;
            textBytes += bytes;
            for (int c = 0; c < columns; c++) {
                lanes[made * NAMES_MOST + c] = guessedLane(made, c);
            }
            return made;
        }

        private int fault(int place) {
            faultAt = place;
            return 0;
        }

        /** Reads a line of so many cells, or the names if that is 0: how many there are, 0 for a fault. */
        private int readLine(int columns) {
            int most = columns == 0 ? NAMES_MOST : columns;
            int mark = cellCount;
            for (int c = 0; c < most; c++) {
                int begin = next;
                if (!readCell()) {
                    return fault(next);
                }
                int many = start[cellCount] - start[cellCount - 1];
                boolean fine = columns == 0 ? many >= 1 && many <= NAME_MOST && isNewName(mark) : many <= CELL_MOST;
                if (!fine) {
                    return fault(begin);
                }
                boolean ends = text[next] == 10;
                if (ends && columns > c + 1) {
                    return fault(next);
                }
                next++;
                if (ends) {
                    return c + 1;
                }
            }
            return fault(next);
        }

        private boolean isNewName(int mark) {
            for (int k = mark; k < cellCount - 1; k++) {
                if (compareCells(k, cellCount - 1) == 0) {
                    return false;
                }
            }
            return true;
        }

        private static boolean isPlain(int c) {
            return c >= 32 && c <= 126;
        }

        /** Reads a cell up to what ends it; else what is next is the fault. */
        private boolean readCell() {
            int end = start[cellCount];
            boolean quoted = next < length && text[next] == '"';
            if (quoted) {
                next++;
                boolean inside = true;
                while (inside && next < length && isPlain(text[next])) {
                    boolean quote = text[next] == '"';
                    boolean twice = quote && next + 1 < length && text[next + 1] == '"';
                    inside = !quote || twice;
                    if (inside) {
                        data[end] = text[next];
                        end++;
                    }
                    next += twice ? 2 : 1;
                }
                if (inside) {
                    return false;
                }
            } else {
                while (next < length && isPlain(text[next]) && text[next] != '"' && text[next] != ',') {
                    data[end] = text[next];
                    end++;
                    next++;
                }
            }
            inQuotes[cellCount] = (byte) (quoted ? 1 : 0);
            cellCount++;
            start[cellCount] = end;
            return next < length && (text[next] == ',' || text[next] == 10);
        }

        private int compareCells(int a, int b) {
            int many = Math.min(start[a + 1] - start[a], start[b + 1] - start[b]);
            for (int k = 0; k < many; k++) {
                int difference = data[start[a] + k] - data[start[b] + k];
                if (difference != 0) {
                    return difference;
                }
            }
            return start[a + 1] - start[a] - (start[b + 1] - start[b]);
        }

        private int cellOf(int t, int row, int c) {
            return first[t] + (row + 1) * width[t] + c;
        }

        private boolean isMissing(int cell) {
            return start[cell] == start[cell + 1] && inQuotes[cell] == 0;
        }

        private int guessedLane(int t, int c) {
            int fitting = ALL_LANES;
            boolean any = false;
            for (int row = 0; row < height[t]; row++) {
                int cell = cellOf(t, row, c);
                if (!isMissing(cell)) {
                    any = true;
                    fitting &= fittingLanes(cell);
                }
            }
            if (!any) {
                return TEXT;
            }
            for (int lane = BOOLEAN; lane <= DOUBLE; lane++) {
                if ((fitting >> lane & 1) == 1) {
                    return lane;
                }
            }
            return TEXT;
        }

        private boolean isWord(int cell, String word) {
            boolean same = start[cell + 1] - start[cell] == word.length();
            for (int k = 0; same && k < word.length(); k++) {
                same = data[start[cell] + k] == word.charAt(k);
            }
            return same;
        }

        /** The lanes that a cell fits, a bit for each. */
        private int fittingLanes(int cell) {
            if (inQuotes[cell] != 0) {
                return 0;
            }
            if (isWord(cell, "true") || isWord(cell, "false")) {
                return 1 << BOOLEAN;
            }
            boolean fitsLong = scanNumber(cell);
            if (digits == 0) {
                return 0;
            }
            int fitting = digits <= DOUBLE_DIGITS ? 1 << DOUBLE : 0;
            if (behind == 0 && fitsLong && digits <= LONG_DIGITS) {
                fitting |= 1 << LONG;
                if (digits <= INT_DIGITS && number == (int) number) {
                    fitting |= 1 << INT;
                }
            }
            return fitting;
        }

        private boolean isDigitAt(int place, int end) {
            return place < end && data[place] >= '0' && data[place] <= '9';
        }

        /** Scans a number with its sign, no digits if it is none; whether all its digits fit a long. */
        private boolean scanNumber(int cell) {
            int at = start[cell];
            int end = start[cell + 1];
            boolean minus = at < end && data[at] == '-';
            boolean fits = true;
            number = 0;
            digits = 0;
            behind = 0;
            if (minus) {
                at++;
            }
            int point = end;
            while (at < end) {
                if (isDigitAt(at, end)) {
                    int digit = data[at] - '0';
                    fits = fits && number >= (Long.MIN_VALUE + digit) / 10;
                    number = number * 10 - digit;
                    digits++;
                } else if (data[at] == '.' && point == end && digits > 0 && isDigitAt(at + 1, end)) {
                    point = at;
                } else {
                    digits = 0;
                    return false;
                }
                at++;
            }
            behind = point == end ? 0 : end - point - 1;
            if (!minus) {
                fits = fits && number != Long.MIN_VALUE;
                number = -number;
            }
            return fits;
        }

        private long bitsOf(int cell, int lane) {
            if (lane == BOOLEAN) {
                return isWord(cell, "true") ? 1 : 0;
            }
            scanNumber(cell);
            if (lane != DOUBLE) {
                return number;
            }
            long size = Numbers.decimal(number < 0 ? -number : number, behind);
            return data[start[cell]] == '-' ? size | Soft.MINUS : size;
        }

        int columnGrid(int t, int c) {
            int lane = laneOf(t, c);
            int unlike = lane == TEXT ? findWords(t, c) : 0;
            store.needWork(height[t]);
            for (int row = 0; row < height[t]; row++) {
                int cell = cellOf(t, row, c);
                if (isMissing(cell)) {
                    store.work[row] = lane == TEXT ? -1 : 0;
                } else {
                    store.work[row] = lane == TEXT ? wordPlace(cell, unlike) : bitsOf(cell, lane);
                }
            }
            store.shapeRow(height[t]);
            return store.addFromWork(lane == TEXT ? INT : lane, 0);
        }

        /** Puts one cell of each unlike word of a column in order: how many. */
        private int findWords(int t, int c) {
            int many = 0;
            for (int row = 0; row < height[t]; row++) {
                int cell = cellOf(t, row, c);
                int place = wordPlace(cell, many);
                boolean known = place < many && compareCells(words[place], cell) == 0;
                if (!isMissing(cell) && !known && many < words.length) {
                    System.arraycopy(words, place, words, place + 1, many - place);
                    words[place] = cell;
                    many++;
                }
            }
            return many;
        }

        /** How many of the first words are before a cell's. */
        private int wordPlace(int cell, int many) {
            int low = 0;
            int high = many;
            while (low < high) {
                int middle = (low + high) / 2;
                if (compareCells(words[middle], cell) < 0) {
                    low = middle + 1;
                } else {
                    high = middle;
                }
            }
            return low;
        }

        int missingGrid(int t, int c) {
            store.needWork(height[t]);
            for (int row = 0; row < height[t]; row++) {
                store.work[row] = isMissing(cellOf(t, row, c)) ? 1 : 0;
            }
            store.shapeRow(height[t]);
            return store.addFromWork(BOOLEAN, 0);
        }

        /** The column of a name, -1 if there is none. */
        int columnNamed(int t, byte[] name, int many) {
            for (int c = 0; c < width[t]; c++) {
                int cell = first[t] + c;
                boolean same = start[cell + 1] - start[cell] == many;
                for (int k = 0; same && k < many; k++) {
                    same = data[start[cell] + k] == name[k];
                }
                if (same) {
                    return c;
                }
            }
            return -1;
        }

        int picked(int t, Grid grid) {
            int rows = grid.count;
            int bytes = lineLength(t, -1);
            int spot = grid.from;
            for (int n = 0; n < rows; n++) {
                long row = store.cells[spot];
                if (row < 0 || row >= height[t]) {
                    return -NO_SPOT;
                }
                bytes += lineLength(t, (int) row);
                spot += grid.step[3];
            }
            if (rows >= LINES_MOST || made >= TABLES_MOST || textBytes + bytes > TEXTS_MOST) {
                return -NO_ROOM;
            }
            int mark = cellCount;
            need(bytes, (rows + 1) * width[t]);
            addLine(t, -1);
            spot = grid.from;
            for (int n = 0; n < rows; n++) {
                addLine(t, (int) store.cells[spot]);
                spot += grid.step[3];
            }
            return added(mark, width[t], rows, bytes);
        }

        private void addLine(int t, int row) {
            for (int c = 0; c < width[t]; c++) {
                int cell = cellOf(t, row, c);
                int many = start[cell + 1] - start[cell];
                System.arraycopy(data, start[cell], data, start[cellCount], many);
                inQuotes[cellCount] = inQuotes[cell];
                start[cellCount + 1] = start[cellCount] + many;
                cellCount++;
            }
        }

        /** Whether a cell is written in quotes. Names are so only where they must be. */
        private boolean isQuoted(int cell, boolean isName) {
            int from = start[cell];
            int to = start[cell + 1];
            if (from < to && (data[from] == ' ' || data[to - 1] == ' ')) {
                return true;
            }
            if (!isName) {
                return inQuotes[cell] != 0;
            }
            for (int k = from; k < to; k++) {
                if (data[k] == '"' || data[k] == ',') {
                    return true;
                }
            }
            return false;
        }

        /** How many bytes a row has as it is written; row -1 has the names. */
        private int lineLength(int t, int row) {
            int bytes = 0;
            for (int c = 0; c < width[t]; c++) {
                int cell = cellOf(t, row, c);
                bytes += start[cell + 1] - start[cell] + 1;
                if (isQuoted(cell, row < 0)) {
                    bytes += 2;
                }
                for (int k = start[cell]; k < start[cell + 1]; k++) {
                    if (data[k] == '"') {
                        bytes++;
                    }
                }
            }
            return bytes;
        }

        int textLength(int t) {
            int bytes = 0;
            for (int row = -1; row < height[t]; row++) {
                bytes += lineLength(t, row);
            }
            return bytes;
        }

        void writeText(int t, byte[] into) {
            int end = 0;
            for (int row = -1; row < height[t]; row++) {
                for (int c = 0; c < width[t]; c++) {
                    end = writeCell(cellOf(t, row, c), row < 0, into, end);
                    into[end] = (byte) (c + 1 < width[t] ? ',' : 10);
                    end++;
                }
            }
        }

        private int writeCell(int cell, boolean isName, byte[] into, int from) {
            boolean quoted = isQuoted(cell, isName);
            int end = from;
            if (quoted) {
                into[end] = '"';
                end++;
            }
            for (int k = start[cell]; k < start[cell + 1]; k++) {
                into[end] = data[k];
                end++;
                if (data[k] == '"') {
                    into[end] = '"';
                    end++;
                }
            }
            if (quoted) {
                into[end] = '"';
                end++;
            }
            return end;
        }
    }

    /** Grids as bytes, and the log of those that are kept. */
    private static final class Log {
        static final int OPENED_MOST = 10;
        private static final int LOG_MOST = 60000;
        private static final int CHECK_BYTES = 4;
        private static final int LENGTH_BYTES = 4;
        private static final int SUM_BYTES = 8;
        private static final int[] CELL_BYTES = {1, 1, 2, 2, 4, 8, 4, 8};
        byte[] data = new byte[256];
        int length;
        boolean closed;
        int opened;
        int decodedLane;
        private final Store store;
        private int lastRecord;

        Log(Store store) {
            this.store = store;
        }

        static int encodedLength(Grid grid) {
            return 4 + 2 * grid.axes + grid.count * CELL_BYTES[grid.lane] + CHECK_BYTES;
        }

        private static int putNumber(byte[] into, int from, int bytes, long number) {
            for (int k = 0; k < bytes; k++) {
                into[from + k] = (byte) (number >> (8 * (bytes - 1 - k)));
            }
            return from + bytes;
        }

        /** A number with its sign, the highest byte first. */
        private static long taken(byte[] source, int from, int bytes) {
            long number = source[from];
            for (int k = 1; k < bytes; k++) {
                number = number << 8 | source[from + k] & 255;
            }
            return number;
        }

        private static int check(byte[] source, int from, int to) {
            int check = -1;
            for (int k = from; k < to; k++) {
                check ^= source[k] & 255;
                for (int bit = 0; bit < 8; bit++) {
                    check = (check & 1) == 1 ? check >>> 1 ^ 0xEDB88320 : check >>> 1;
                }
            }
            return ~check;
        }

        private static long sum(byte[] source, int from, int to) {
            long s = 0;
            for (int k = from; k < to; k++) {
                s ^= source[k] & 255;
                s = (s << 27 | s >>> 37) * 0x9E3779B97F4A7C15L;
            }
            return s;
        }

        void encode(Grid grid, byte[] into, int from) {
            into[from] = 71;
            into[from + 1] = 82;
            into[from + 2] = (byte) grid.lane;
            into[from + 3] = (byte) grid.axes;
            int end = from + 4;
            for (int k = 0; k < grid.axes; k++) {
                end = putNumber(into, end, 2, grid.size[grid.position(k)]);
            }
            store.valuesToLine(grid);
            for (int n = 0; n < grid.count; n++) {
                end = putNumber(into, end, CELL_BYTES[grid.lane], store.line[n]);
            }
            putNumber(into, end, CHECK_BYTES, check(into, from, end));
        }

        /** Reads a grid's shape and cells into the store's rows: -1, or the place of the fault. */
        int decode(byte[] source, int from, int many) {
            int end = many - CHECK_BYTES;
            if (many < 8 || (int) taken(source, from + end, CHECK_BYTES) != check(source, from, from + end)) {
                return Math.max(0, end);
            }
            int axes = source[from + 3];
            if (source[from] != 71) {
                return 0;
            }
            if (source[from + 1] != 82) {
                return 1;
            }
            if (!Numbers.isLane(source[from + 2])) {
                return 2;
            }
            if (axes < 0 || axes > AXES_MOST) {
                return 3;
            }
            decodedLane = source[from + 2];
            Arrays.fill(store.shape, 1);
            store.shapeAxes = axes;
            for (int k = 0; k < axes; k++) {
                int place = 4 + 2 * k;
                long size = place + 2 <= end ? taken(source, from + place, 2) : -1;
                if (size < 0 || size > SIZE_MOST) {
                    return place;
                }
                store.shape[AXES_MOST - axes + k] = (int) size;
            }
            return decodeCells(source, from, 4 + 2 * axes, end);
        }

        private int decodeCells(byte[] source, int from, int begin, int end) {
            long cells = store.shapeCells();
            int bytes = CELL_BYTES[decodedLane];
            int place = begin;
            store.needWork((int) Math.min(cells, (end - begin) / bytes));
            for (int n = 0; n < cells; n++) {
                if (place + bytes > end) {
                    return place;
                }
                long bits = taken(source, from + place, bytes);
                if (decodedLane == CHAR) {
                    bits &= 0xffffL;
                } else if (decodedLane == FLOAT) {
                    bits &= 0xffffffffL;
                }
                if (!Numbers.holds(decodedLane, bits)) {
                    return place;
                }
                store.work[n] = bits;
                place += bytes;
            }
            return place < end ? place : -1;
        }

        static boolean isName(byte[] text, int from, int many) {
            if (many < 1 || many > NAME_MOST) {
                return false;
            }
            for (int k = 0; k < many; k++) {
                if (text[from + k] < 33 || text[from + k] > 126) {
                    return false;
                }
            }
            return true;
        }

        private void need(int most) {
            if (most > data.length) {
                data = Arrays.copyOf(data, Math.max(most, 2 * data.length));
            }
        }

        /** Adds a record: how many bytes the log has then, or the refusal. */
        int append(Grid grid, byte[] name, int nameBytes) {
            int gridBytes = encodedLength(grid);
            int record = LENGTH_BYTES + 1 + nameBytes + gridBytes + SUM_BYTES;
            if (gridBytes > WRITTEN_MOST || length + record > LOG_MOST) {
                return -NO_ROOM;
            }
            need(length + record);
            int end = putNumber(data, length, LENGTH_BYTES, record);
            end = putNumber(data, end, 1, nameBytes);
            System.arraycopy(name, 0, data, end, nameBytes);
            end += nameBytes;
            encode(grid, data, end);
            end += gridBytes;
            putNumber(data, end, SUM_BYTES, sum(data, length, end));
            lastRecord = length;
            length += record;
            return length;
        }

        /** The latest record of a name, -1 if there is none. */
        int latest(byte[] name, int nameBytes) {
            int found = -1;
            int at = 0;
            for (int record = 0; at < length && record < LOG_MOST; record++) {
                if (isOfName(at, name, 0, nameBytes)) {
                    found = at;
                }
                at = nextRecord(at);
            }
            return found;
        }

        /** All records up to the length are whole: they were written, or read again, so. */
        private int nextRecord(int at) {
            int many = at + LENGTH_BYTES <= length ? (int) taken(data, at, LENGTH_BYTES) : 0;
            return many > 0 && many <= length - at ? at + many : length;
        }

        private boolean isOfName(int at, byte[] name, int from, int nameBytes) {
            if (data[at + LENGTH_BYTES] != nameBytes) {
                return false;
            }
            for (int k = 0; k < nameBytes; k++) {
                if (data[at + LENGTH_BYTES + 1 + k] != name[from + k]) {
                    return false;
                }
            }
            return true;
        }

        boolean decodeRecord(int at) {
            int begin = at + LENGTH_BYTES + 1 + data[at + LENGTH_BYTES];
            return decode(data, begin, nextRecord(at) - SUM_BYTES - begin) < 0;
        }

        void cutLast(int n) {
            if (n < length - lastRecord) {
                length = lastRecord + n;
            }
            closed = true;
        }

        /** Opens the log: how many names are kept. */
        int readAgain() {
            int at = 0;
            int names = 0;
            lastRecord = 0;
            for (int record = 0; record < LOG_MOST && isWhole(at); record++) {
                if (!isKeptBefore(at)) {
                    names++;
                }
                lastRecord = at;
                at = nextRecord(at);
            }
            length = at;
            closed = false;
            opened++;
            return names;
        }

        private boolean isKeptBefore(int later) {
            int at = 0;
            for (int record = 0; at < later && record < LOG_MOST; record++) {
                if (isOfName(at, data, later + LENGTH_BYTES + 1, data[later + LENGTH_BYTES])) {
                    return true;
                }
                at = nextRecord(at);
            }
            return false;
        }

        private boolean isWhole(int at) {
            int least = LENGTH_BYTES + 1 + SUM_BYTES;
            int left = length - at;
            int many = left >= least ? (int) taken(data, at, LENGTH_BYTES) : 0;
            if (many < least || many > left) {
                return false;
            }
            int nameBytes = data[at + LENGTH_BYTES];
            int end = at + many - SUM_BYTES;
            if (nameBytes < 0 || at + LENGTH_BYTES + 1 + nameBytes > end || !isName(data, at + LENGTH_BYTES + 1, nameBytes)) {
                return false;
            }
            return taken(data, end, SUM_BYTES) == sum(data, at, end) && decodeRecord(at);
        }
    }
}
