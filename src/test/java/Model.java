import java.io.ByteArrayOutputStream;
import java.math.BigInteger;
import java.nio.charset.StandardCharsets;
import java.util.ArrayList;
import java.util.Arrays;
import java.util.Collections;
import java.util.HashSet;
import java.util.List;
import java.util.Set;
import java.util.TreeMap;
import java.util.TreeSet;
import java.util.regex.Matcher;
import java.util.regex.Pattern;
import java.util.zip.CRC32;

/**
 * The whole engine once more, sentence by sentence from the document, in its plainest form: lists,
 * maps, recursion, exceptions and the language's own arithmetic. Random runs are compared with it.
 */
final class Model {
    /** A call is refused with a code. */
    private static final class No extends RuntimeException {
        final int code;

        No(int code) {
            super(null, null, false, false);
            this.code = code;
        }
    }

    /** A text has a fault at a place. */
    private static final class Fault extends RuntimeException {
        final int place;

        Fault(int place) {
            super(null, null, false, false);
            this.place = place;
        }
    }

    /** A grid or view: cell n stands in the store at at[n]. */
    private record Grid(int lane, int[] size, boolean spread, long[] store, int[] at) {
        int count() {
            return at.length;
        }

        long cell(int n) {
            return store[at[n]];
        }

        long[] cells() {
            return Arrays.stream(at).mapToLong(p -> store[p]).toArray();
        }
    }

    private record Cell(String text, boolean quoted) {
        boolean missing() {
            return text.isEmpty() && !quoted;
        }
    }

    private static final class Table {
        final List<String> names = new ArrayList<>();
        final List<List<Cell>> rows = new ArrayList<>();
    }

    private interface Call {
        int answer();
    }

    private byte[] tray = new byte[0];
    private int fed;
    private List<Integer> sizes = new ArrayList<>();
    private List<Integer> indexes = new ArrayList<>();
    private int code;
    private int place = -1;
    private int[] failed;
    private byte[] out = new byte[0];
    private final List<Grid> grids = new ArrayList<>();
    private int cellsMade;
    private final List<Table> tables = new ArrayList<>();
    private int textBytes;
    private final Grid[] bound = new Grid[8];
    private Reference formulas = new Reference();
    private byte[] log = new byte[0];
    private int lastRecord;
    private boolean closed;
    private int opened;

    // ---- what all calls share

    private int answer(Call call) {
        try {
            return call.answer();
        } catch (No no) {
            return -no.code;
        }
    }

    private void notClosed() {
        if (closed) {
            throw new No(13);
        }
    }

    private Grid find(int g) {
        notClosed();
        if (g < 1 || g > grids.size() || grids.get(g - 1) == null) {
            throw new No(14);
        }
        return grids.get(g - 1);
    }

    private Table findTable(int t) {
        notClosed();
        if (t < 1 || t > tables.size() || tables.get(t - 1) == null) {
            throw new No(14);
        }
        return tables.get(t - 1);
    }

    private static void need(boolean fine, int code) {
        if (!fine) {
            throw new No(code);
        }
    }

    private static boolean isLane(int lane) {
        return lane >= 0 && lane <= 7;
    }

    private String takeTray() {
        notClosed();
        String text = new String(tray, StandardCharsets.ISO_8859_1);
        tray = new byte[0];
        return text;
    }

    private int[] takeSizes() {
        int[] taken = sizes.stream().mapToInt(s -> s).toArray();
        sizes = new ArrayList<>();
        return taken;
    }

    private int[] takeIndexes() {
        int[] taken = indexes.stream().mapToInt(s -> s).toArray();
        indexes = new ArrayList<>();
        return taken;
    }

    private static long product(int[] size) {
        long n = 1;
        for (int s : size) {
            n *= s;
        }
        return n;
    }

    private int[] spotOf(int n, int[] size) {
        int[] spot = new int[size.length];
        int rest = n;
        for (int k = size.length - 1; k >= 0; k--) {
            spot[k] = rest % size[k];
            rest /= size[k];
        }
        return spot;
    }

    private static int cellOf(int[] spot, int[] size) {
        int n = 0;
        for (int k = 0; k < size.length; k++) {
            n = n * size[k] + spot[k];
        }
        return n;
    }

    private void needRoom(int many, long cells) {
        need(grids.size() + many <= 400 && cellsMade + cells <= 100000, 12);
    }

    private int add(Grid g) {
        needRoom(1, 0);
        grids.add(g);
        return grids.size();
    }

    private int make(int lane, int[] size, long[] cells) {
        needRoom(1, product(size));
        int[] at = new int[cells.length];
        Arrays.setAll(at, n -> n);
        cellsMade += cells.length;
        return add(new Grid(lane, size, false, cells, at));
    }

    private No failAt(int n, int[] size, int why) {
        failed = spotOf(n, size);
        return new No(why);
    }

    static boolean holds(int lane, long bits) {
        return switch (lane) {
            case 0 -> bits == 0 || bits == 1;
            case 1 -> bits == (byte) bits;
            case 2 -> bits == (short) bits;
            case 3 -> bits == (char) bits;
            case 4 -> bits == (int) bits;
            case 5 -> true;
            case 6 -> bits == (bits & 0xffffffffL) && !Float.isNaN(Float.intBitsToFloat((int) bits));
            default -> !Double.isNaN(Double.longBitsToDouble(bits));
        };
    }

    private static long widened(int from, int to, long bits) {
        return new Reference.Value(from, bits).in(to).bits();
    }

    private static int compare(int lane, long a, long b) {
        if (lane == 6) {
            return Float.compare(Float.intBitsToFloat((int) a), Float.intBitsToFloat((int) b));
        }
        return lane == 7 ? Double.compare(Double.longBitsToDouble(a), Double.longBitsToDouble(b)) : Long.compare(a, b);
    }

    // ---- promises 2 to 14

    int feed(int a, int b, int c, int d, int e) {
        if (tray.length + 20 > 16000 || fed + 20 > 65536) {
            return -1;
        }
        ByteArrayOutputStream bytes = new ByteArrayOutputStream();
        bytes.writeBytes(tray);
        for (int word : new int[] {a, b, c, d, e}) {
            bytes.write(word >> 24);
            bytes.write(word >> 16);
            bytes.write(word >> 8);
            bytes.write(word);
        }
        fed += 20;
        tray = bytes.toByteArray();
        return tray.length;
    }

    int end(int n) {
        if (n < 0 || n > tray.length) {
            return -1;
        }
        tray = Arrays.copyOf(tray, n);
        return n;
    }

    int axis(int n) {
        if (n < 0 || n > 4096 || sizes.size() == 4) {
            return -1;
        }
        sizes.add(n);
        return sizes.size();
    }

    int at(int i) {
        if (indexes.size() == 4) {
            return -1;
        }
        indexes.add(i);
        return indexes.size();
    }

    int grid(int lane) {
        int[] size = takeSizes();
        return answer(() -> {
            notClosed();
            need(isLane(lane), 14);
            need(product(size) <= 100000, 12);
            return make(lane, size, new long[(int) product(size)]);
        });
    }

    int put(int g, int lane, long bits) {
        int[] spot = takeIndexes();
        return answer(() -> {
            Grid grid = find(g);
            need(isLane(lane), 14);
            need(holds(lane, bits) && Reference.fits(lane, grid.lane) && spot.length == grid.size.length, 1);
            need(!grid.spread, 5);
            need(isSpot(spot, grid.size), 2);
            grid.store[grid.at[cellOf(spot, grid.size)]] = widened(lane, grid.lane, bits);
            return 0;
        });
    }

    private static boolean isSpot(int[] spot, int[] size) {
        for (int k = 0; k < size.length; k++) {
            if (spot[k] < 0 || spot[k] >= size[k]) {
                return false;
            }
        }
        return true;
    }

    long get(int g) {
        int[] spot = takeIndexes();
        long[] found = new long[1];
        code = -answer(() -> {
            Grid grid = find(g);
            need(spot.length == grid.size.length, 1);
            need(isSpot(spot, grid.size), 2);
            found[0] = grid.cell(cellOf(spot, grid.size));
            return 0;
        });
        return found[0];
    }

    long cell(int g, int n) {
        long[] found = new long[1];
        code = -answer(() -> {
            Grid grid = find(g);
            need(n >= 0 && n < grid.count(), 2);
            found[0] = grid.cell(n);
            return 0;
        });
        return found[0];
    }

    int code() {
        return code;
    }

    int lane(int g) {
        return answer(() -> find(g).lane);
    }

    int axes(int g) {
        return answer(() -> find(g).size.length);
    }

    int size(int g, int axis) {
        return answer(() -> {
            int[] size = find(g).size;
            need(axis >= 0 && axis < size.length, 2);
            return size[axis];
        });
    }

    int cells(int g) {
        return answer(() -> find(g).count());
    }

    // ---- promises 15 to 22

    private static final String NUMBER = "-?[0-9]{1,9}";
    private static final Pattern ITEM = Pattern.compile(
        "(?<place>" + NUMBER + ")|(?<fresh>\\*)|(?<from>" + NUMBER + ")? *: *(?<to>" + NUMBER + ")? *(: *(?<by>" + NUMBER + ")?)?");
    private static final String PLAIN_ITEM = "(" + NUMBER + "|\\*|(" + NUMBER + ")? *: *(" + NUMBER + ")? *(: *(" + NUMBER + ")?)?)";
    private static final Pattern VIEW = Pattern.compile(" *(" + PLAIN_ITEM + " *(, *" + PLAIN_ITEM + " *)*)?");

    /** The first byte behind which no text of the pattern goes on so. */
    private static void noStrangeByte(Pattern pattern, String text) {
        for (int n = 1; n <= text.length(); n++) {
            Matcher m = pattern.matcher(text.substring(0, n));
            if (!m.matches() && !m.hitEnd()) {
                throw new Fault(n - 1);
            }
        }
        if (!pattern.matcher(text).matches()) {
            throw new Fault(text.length());
        }
    }

    /** The places along an axis of size n that an item chooses; null: there are none such. */
    private static List<Integer> chosen(Matcher item, int n) {
        List<Integer> places = new ArrayList<>();
        if (item.group("place") != null) {
            int p = Integer.parseInt(item.group("place"));
            if (p < -n || p > n - 1) {
                return null;
            }
            places.add(p < 0 ? p + n : p);
            return places;
        }
        int by = item.group("by") == null ? 1 : Integer.parseInt(item.group("by"));
        if (by == 0) {
            return null;
        }
        int least = by > 0 ? 0 : -1;
        int most = by > 0 ? n : n - 1;
        int from = by > 0 ? 0 : n - 1;
        int to = by > 0 ? n : -1;
        if (item.group("from") != null) {
            from = Integer.parseInt(item.group("from"));
            from = Math.min(most, Math.max(least, from < 0 ? from + n : from));
        }
        if (item.group("to") != null) {
            to = Integer.parseInt(item.group("to"));
            to = Math.min(most, Math.max(least, to < 0 ? to + n : to));
        }
        for (long p = from; by > 0 ? p < to : p > to; p += by) {
            places.add((int) p);
        }
        return places;
    }

    private Grid viewed(Grid grid, String text) {
        noStrangeByte(VIEW, text);
        List<List<Integer>> axes = new ArrayList<>();
        List<Integer> own = new ArrayList<>();
        List<Boolean> stays = new ArrayList<>();
        int axis = 0;
        int from = 0;
        for (String part : text.isBlank() ? new String[0] : text.split(",", -1)) {
            Matcher item = ITEM.matcher(part.trim());
            item.matches();
            int begin = from + part.indexOf(part.trim());
            from += part.length() + 1;
            if (item.group("fresh") != null) {
                axes.add(null);
                own.add(-1);
                stays.add(true);
                continue;
            }
            List<Integer> places = axis < grid.size.length ? chosen(item, grid.size[axis]) : null;
            if (places == null) {
                throw new Fault(begin);
            }
            axes.add(places);
            own.add(axis);
            stays.add(item.group("place") == null);
            axis++;
        }
        for (; axis < grid.size.length; axis++) {
            List<Integer> all = new ArrayList<>();
            for (int p = 0; p < grid.size[axis]; p++) {
                all.add(p);
            }
            axes.add(all);
            own.add(axis);
            stays.add(true);
        }
        List<Integer> size = new ArrayList<>();
        for (int k = 0; k < axes.size(); k++) {
            if (stays.get(k)) {
                size.add(axes.get(k) == null ? 1 : axes.get(k).size());
            }
        }
        if (size.size() > 4) {
            throw new Fault(text.length());
        }
        List<Integer> at = new ArrayList<>();
        walk(grid, axes, own, 0, new int[grid.size.length], at);
        return new Grid(grid.lane, size.stream().mapToInt(s -> s).toArray(), grid.spread, grid.store, at.stream().mapToInt(s -> s).toArray());
    }

    private void walk(Grid grid, List<List<Integer>> axes, List<Integer> own, int k, int[] spot, List<Integer> at) {
        if (k == axes.size()) {
            at.add(grid.at[cellOf(spot, grid.size)]);
        } else if (axes.get(k) == null) {
            walk(grid, axes, own, k + 1, spot, at);
        } else if (grid.count() > 0) {
            for (int p : axes.get(k)) {
                spot[own.get(k)] = p;
                walk(grid, axes, own, k + 1, spot, at);
            }
        }
    }

    int view(int g) {
        return answer(() -> {
            String text = takeTray();
            Grid grid = find(g);
            return withPlace(() -> add(viewed(grid, text)));
        });
    }

    private int withPlace(Call call) {
        try {
            int made = call.answer();
            place = -1;
            return made;
        } catch (Fault f) {
            place = f.place;
            return -20;
        }
    }

    int place() {
        return place;
    }

    int turned(int g, int a, int b) {
        return answer(() -> {
            Grid grid = find(g);
            int axes = grid.size.length;
            need(a >= 0 && a < axes && b >= 0 && b < axes, 2);
            int[] size = grid.size.clone();
            size[a] = grid.size[b];
            size[b] = grid.size[a];
            int[] at = new int[grid.count()];
            for (int n = 0; n < at.length; n++) {
                int[] spot = spotOf(n, size);
                int held = spot[a];
                spot[a] = spot[b];
                spot[b] = held;
                at[n] = grid.at[cellOf(spot, grid.size)];
            }
            return add(new Grid(grid.lane, size, grid.spread, grid.store, at));
        });
    }

    int spread(int g) {
        int[] size = takeSizes();
        return answer(() -> {
            Grid grid = find(g);
            int more = size.length - grid.size.length;
            need(more >= 0, 3);
            for (int k = 0; k < grid.size.length; k++) {
                need(grid.size[k] == size[more + k] || grid.size[k] == 1, 3);
            }
            need(product(size) <= 100000, 12);
            int[] at = new int[(int) product(size)];
            for (int n = 0; n < at.length; n++) {
                int[] spot = spotOf(n, size);
                int[] own = new int[grid.size.length];
                for (int k = 0; k < own.length; k++) {
                    own[k] = grid.size[k] == 1 ? 0 : spot[more + k];
                }
                at[n] = grid.at[cellOf(own, grid.size)];
            }
            return add(new Grid(grid.lane, size, true, grid.store, at));
        });
    }

    int shaped(int g) {
        int[] size = takeSizes();
        return answer(() -> {
            Grid grid = find(g);
            need(product(size) == grid.count(), 3);
            return make(grid.lane, size, grid.cells());
        });
    }

    int shares(int g, int h) {
        return answer(() -> {
            Grid first = find(g);
            Grid second = find(h);
            if (first.store != second.store) {
                return 0;
            }
            Set<Integer> places = new HashSet<>();
            for (int p : first.at) {
                places.add(p);
            }
            for (int p : second.at) {
                if (places.contains(p)) {
                    return 1;
                }
            }
            return 0;
        });
    }

    int copy(int g, int h) {
        return answer(() -> {
            Grid first = find(g);
            Grid second = find(h);
            need(Reference.fits(first.lane, second.lane), 1);
            need(!second.spread, 5);
            need(Arrays.equals(first.size, second.size), 3);
            long[] cells = first.cells();
            for (int n = 0; n < cells.length; n++) {
                second.store[second.at[n]] = widened(first.lane, second.lane, cells[n]);
            }
            return 0;
        });
    }

    int cast(int g, int lane, int rule) {
        failed = null;
        return answer(() -> {
            Grid grid = find(g);
            need(isLane(lane) && rule >= 0 && rule <= 3, 14);
            need((grid.lane == 0) == (lane == 0), 1);
            long[] cells = grid.cells();
            for (int n = 0; n < cells.length; n++) {
                Reference.Value v = Reference.cast(new Reference.Value(grid.lane, cells[n]), lane, rule);
                if (v == null) {
                    throw failAt(n, grid.size, 8);
                }
                cells[n] = v.bits();
            }
            return make(lane, grid.size, cells);
        });
    }

    // ---- promises 23 to 28

    int functions() {
        return answer(() -> {
            int answer = formulas.functions(takeTray());
            place = formulas.place;
            return answer;
        });
    }

    int bind(int n, int g) {
        return answer(() -> {
            notClosed();
            Grid grid = g == 0 ? null : find(g);
            need(n >= 0 && n <= 7, 2);
            bound[n] = grid;
            return 0;
        });
    }

    int formula() {
        failed = null;
        return answer(() -> {
            String text = takeTray();
            for (int n = 0; n < 8; n++) {
                formulas.boundLane[n] = bound[n] == null ? 0 : bound[n].lane;
                formulas.boundSize[n] = bound[n] == null ? null : bound[n].size;
                formulas.boundCells[n] = bound[n] == null ? null : bound[n].cells();
            }
            formulas.place = place;
            int answer = formulas.formula(text);
            failed = formulas.failed;
            if (answer == Reference.OK) {
                answer = make(formulas.lane, formulas.size, formulas.cells);
            }
            place = formulas.place;
            return answer;
        });
    }

    int choose() {
        int[] lanes = takeSizes();
        return answer(() -> {
            String name = takeTray();
            need(lanes.length > 0, 14);
            for (int lane : lanes) {
                need(isLane(lane), 14);
            }
            return formulas.choose(name, lanes);
        });
    }

    int failed(int n) {
        return failed == null || n < 0 || n >= failed.length ? -1 : failed[n];
    }

    int steps() {
        return formulas.steps;
    }

    // ---- promises 29 to 34

    private static int foldLane(int way, int lane) {
        boolean fine = switch (way) {
            case 0, 2, 3, 4 -> lane >= 1;
            case 1 -> lane >= 1 && lane <= 5;
            case 8 -> lane >= 6;
            default -> lane == 0;
        };
        need(fine, 1);
        return way == 3 || way == 4 || way == 6 || way == 7 ? lane : Math.max(4, lane);
    }

    /** The fold of values of a lane; a Stop if it fails. */
    private static long fold(int way, int lane, List<Long> values) {
        int result = foldLane(way, lane);
        if (way == 8) {
            return paired(lane, values).bits();
        }
        if (way == 3 || way == 4) {
            if (values.isEmpty()) {
                throw new Reference.Stop(4, -1);
            }
            long best = values.get(0);
            for (long v : values) {
                int order = compare(lane, v, best);
                best = way == 3 && order < 0 || way == 4 && order > 0 ? v : best;
            }
            return best;
        }
        if (way >= 5) {
            long ones = values.stream().filter(v -> v == 1).count();
            return way == 5 ? ones : way == 6 ? (ones == values.size() ? 1 : 0) : ones > 0 ? 1 : 0;
        }
        Reference.Value so = new Reference.Value(4, way == 2 ? 1 : 0).in(result);
        for (long v : values) {
            Reference.Value next = new Reference.Value(lane, v).in(result);
            if (way == 1) {
                so = Reference.builtInValue("addexact", result, new Reference.Value[] {so, next});
            } else {
                so = Reference.binary(way == 2 ? "*" : "+", so, next);
            }
        }
        return so.bits();
    }

    private static Reference.Value paired(int lane, List<Long> values) {
        int n = values.size();
        if (n < 2) {
            return new Reference.Value(lane, n == 0 ? 0 : values.get(0));
        }
        return Reference.binary("+", paired(lane, values.subList(0, n / 2)), paired(lane, values.subList(n / 2, n)));
    }

    private static int[] without(int[] size, int axis) {
        List<Integer> left = new ArrayList<>();
        for (int k = 0; k < size.length; k++) {
            if (k != axis) {
                left.add(size[k]);
            }
        }
        return axis < 0 ? new int[0] : left.stream().mapToInt(s -> s).toArray();
    }

    /** The values along an axis, or all, up to one of them. */
    private List<Long> line(Grid grid, int axis, int[] others, int upTo) {
        List<Long> values = new ArrayList<>();
        if (axis < 0) {
            for (int n = 0; n < upTo; n++) {
                values.add(grid.cell(n));
            }
            return values;
        }
        int[] spot = new int[grid.size.length];
        for (int k = 0; k < spot.length; k++) {
            spot[k] = k == axis ? 0 : others[k > axis ? k - 1 : k];
        }
        for (int p = 0; p < upTo; p++) {
            spot[axis] = p;
            values.add(grid.cell(cellOf(spot, grid.size)));
        }
        return values;
    }

    int fold(int g, int way, int axis) {
        failed = null;
        return answer(() -> {
            Grid grid = find(g);
            need(way >= 0 && way <= 8 && axis >= -1, 14);
            int lane = foldLane(way, grid.lane);
            need(axis < grid.size.length, 2);
            int[] size = without(grid.size, axis);
            int many = axis < 0 ? grid.count() : grid.size[axis];
            if (many == 0 && (way == 3 || way == 4) && product(size) > 0) {
                throw failAt(0, size, 4);
            }
            need(product(size) <= 100000, 12);
            long[] cells = new long[(int) product(size)];
            for (int n = 0; n < cells.length; n++) {
                try {
                    cells[n] = fold(way, grid.lane, line(grid, axis, spotOf(n, size), many));
                } catch (Reference.Stop s) {
                    throw failAt(n, size, s.code);
                }
            }
            return make(lane, size, cells);
        });
    }

    int running(int g, int way, int axis) {
        failed = null;
        return answer(() -> {
            Grid grid = find(g);
            need(way >= 0 && way <= 7 && way != 5 && axis >= -1, 14);
            int lane = foldLane(way, grid.lane);
            need(axis < grid.size.length, 2);
            long[] cells = new long[grid.count()];
            for (int n = 0; n < cells.length; n++) {
                int[] spot = spotOf(n, grid.size);
                int[] others = axis < 0 ? spot : without(spot, axis);
                try {
                    cells[n] = fold(way, grid.lane, line(grid, axis, others, axis < 0 ? n + 1 : spot[axis] + 1));
                } catch (Reference.Stop s) {
                    throw failAt(n, grid.size, s.code);
                }
            }
            return make(lane, grid.size, cells);
        });
    }

    int sorted(int g, boolean falling) {
        return answer(() -> {
            Grid grid = find(g);
            need(grid.size.length == 1, 1);
            List<Integer> places = new ArrayList<>();
            for (int n = 0; n < grid.count(); n++) {
                places.add(n);
            }
            places.sort((a, b) -> (falling ? -1 : 1) * compare(grid.lane, grid.cell(a), grid.cell(b)));
            return make(4, grid.size, places.stream().mapToLong(p -> p).toArray());
        });
    }

    int search(int g, long bits) {
        return answer(() -> {
            Grid grid = find(g);
            need(grid.size.length == 1 && holds(grid.lane, bits), 1);
            return (int) Arrays.stream(grid.cells()).filter(c -> compare(grid.lane, c, bits) < 0).count();
        });
    }

    int groups(int keys, int values, int way) {
        return answer(() -> {
            Grid first = find(keys);
            Grid second = find(values);
            need(way >= 0 && way <= 7, 14);
            need(first.size.length == 1 && second.size.length == 1, 1);
            int lane = foldLane(way, second.lane);
            need(first.count() == second.count(), 3);
            TreeMap<Long, List<Long>> groups = new TreeMap<>((a, b) -> compare(first.lane, a, b));
            for (int n = 0; n < first.count(); n++) {
                groups.computeIfAbsent(first.cell(n), k -> new ArrayList<>()).add(second.cell(n));
            }
            long[] folds = new long[groups.size()];
            int n = 0;
            for (List<Long> group : groups.values()) {
                try {
                    folds[n++] = fold(way, second.lane, group);
                } catch (Reference.Stop s) {
                    throw new No(s.code);
                }
            }
            needRoom(2, 2L * folds.length);
            int made = make(first.lane, new int[] {folds.length}, groups.keySet().stream().mapToLong(k -> k).toArray());
            make(lane, new int[] {folds.length}, folds);
            return made;
        });
    }

    int join(int g, int h) {
        return answer(() -> {
            Grid first = find(g);
            Grid second = find(h);
            need(first.size.length == 1 && second.size.length == 1 && first.lane == second.lane, 1);
            List<Long> pairs = new ArrayList<>();
            for (int a = 0; a < first.count(); a++) {
                for (int b = 0; b < second.count(); b++) {
                    if (first.cell(a) == second.cell(b)) {
                        pairs.add((long) a);
                        pairs.add((long) b);
                        need(pairs.size() <= 2 * 4096, 12);
                    }
                }
            }
            return make(4, new int[] {pairs.size() / 2, 2}, pairs.stream().mapToLong(p -> p).toArray());
        });
    }

    // ---- promises 35 to 37

    int product(int g, int h) {
        failed = null;
        return answer(() -> {
            Grid a = find(g);
            Grid b = find(h);
            need(a.size.length == 2 && b.size.length == 2 && a.lane > 0 && b.lane > 0, 1);
            need(a.size[1] == b.size[0], 3);
            int[] size = {a.size[0], b.size[1]};
            need(product(size) * a.size[1] <= 1000000 && product(size) <= 100000, 12);
            int lane = Reference.wider(a.lane, b.lane);
            long[] cells = new long[(int) product(size)];
            for (int n = 0; n < cells.length; n++) {
                int[] spot = spotOf(n, size);
                Reference.Value sum = new Reference.Value(4, 0).in(lane);
                try {
                    for (int k = 0; k < a.size[1]; k++) {
                        Reference.Value x = new Reference.Value(a.lane, a.cell(spot[0] * a.size[1] + k)).in(lane);
                        Reference.Value y = new Reference.Value(b.lane, b.cell(k * b.size[1] + spot[1])).in(lane);
                        sum = Reference.binary("+", sum, Reference.binary("*", x, y));
                    }
                } catch (Reference.Stop s) {
                    throw failAt(n, size, s.code);
                }
                cells[n] = sum.bits();
            }
            return make(lane, size, cells);
        });
    }

    int solve(int g, int h) {
        failed = null;
        return answer(() -> {
            Grid a = find(g);
            Grid b = find(h);
            need(a.size.length == 2 && b.size.length == 1 && a.lane >= 1 && a.lane <= 4 && b.lane >= 1 && b.lane <= 4, 1);
            int n = a.size[0];
            need(n >= 1 && n <= 10, 1);
            need(a.size[1] == n && b.size[0] == n, 3);
            BigInteger[][] top = new BigInteger[n][n + 1];
            for (int r = 0; r < n; r++) {
                for (int c = 0; c < n; c++) {
                    top[r][c] = BigInteger.valueOf(a.cell(r * n + c));
                }
                top[r][n] = BigInteger.valueOf(b.cell(r));
            }
            eliminate(top, n);
            long[] numerators = new long[n];
            long[] denominators = new long[n];
            for (int r = 0; r < n; r++) {
                BigInteger divisor = top[r][n].gcd(top[r][r]);
                BigInteger low = top[r][r].divide(divisor);
                BigInteger high = top[r][n].divide(divisor);
                if (low.signum() < 0) {
                    low = low.negate();
                    high = high.negate();
                }
                if (low.bitLength() > 63 || high.bitLength() > 63) {
                    throw failAt(r, new int[] {n}, 8);
                }
                numerators[r] = high.longValueExact();
                denominators[r] = low.longValueExact();
            }
            needRoom(2, 2L * n);
            int made = make(5, new int[] {n}, numerators);
            make(5, new int[] {n}, denominators);
            return made;
        });
    }

    /** Rows are multiplied crosswise until each has one unknown alone. */
    private static void eliminate(BigInteger[][] top, int n) {
        for (int k = 0; k < n; k++) {
            int pivot = k;
            while (pivot < n && top[pivot][k].signum() == 0) {
                pivot++;
            }
            need(pivot < n, 6);
            BigInteger[] held = top[k];
            top[k] = top[pivot];
            top[pivot] = held;
            for (int r = 0; r < n; r++) {
                if (r == k) {
                    continue;
                }
                BigInteger own = top[r][k];
                BigInteger divisor = BigInteger.ZERO;
                for (int c = 0; c <= n; c++) {
                    top[r][c] = top[r][c].multiply(top[k][k]).subtract(top[k][c].multiply(own));
                    divisor = divisor.gcd(top[r][c]);
                }
                for (int c = 0; c <= n && divisor.signum() != 0; c++) {
                    top[r][c] = top[r][c].divide(divisor);
                }
            }
        }
    }

    int residues(int g, int p, boolean back) {
        return answer(() -> {
            Grid grid = find(g);
            need(grid.size.length == 1 && grid.lane >= 1 && grid.lane <= 5, 1);
            int n = grid.count();
            need(n >= 1 && n <= 1024 && Integer.bitCount(n) == 1, 1);
            need(p >= 3 && p <= 1000000007 && BigInteger.valueOf(p).isProbablePrime(50) && (p - 1) % n == 0, 1);
            BigInteger modulus = BigInteger.valueOf(p);
            BigInteger w = BigInteger.ONE;
            for (int h = 2; n > 1; h++) {
                w = BigInteger.valueOf(h).modPow(BigInteger.valueOf((p - 1) / n), modulus);
                if (w.modPow(BigInteger.valueOf(n / 2), modulus).equals(modulus.subtract(BigInteger.ONE))) {
                    break;
                }
            }
            w = back ? w.modInverse(modulus) : w;
            long times = back ? BigInteger.valueOf(n).modInverse(modulus).longValue() : 1;
            long[] cells = new long[n];
            for (int k = 0; k < n; k++) {
                long step = w.modPow(BigInteger.valueOf(k), modulus).longValue();
                long power = 1;
                for (int j = 0; j < n; j++) {
                    cells[k] = (cells[k] + Math.floorMod(grid.cell(j), (long) p) * power) % p;
                    power = power * step % p;
                }
                cells[k] = cells[k] * times % p;
            }
            return make(5, new int[] {n}, cells);
        });
    }

    // ---- promises 38 to 45

    private static final class TableReader {
        final String text;
        int next;

        TableReader(String text) {
            this.text = text;
        }

        char now() {
            if (next == text.length()) {
                throw new Fault(next);
            }
            return text.charAt(next);
        }

        Cell cell() {
            StringBuilder meaning = new StringBuilder();
            boolean quoted = now() == '"';
            if (quoted) {
                next++;
                while (true) {
                    char c = now();
                    if (c < 32 || c > 126) {
                        throw new Fault(next);
                    }
                    next++;
                    if (c == '"') {
                        if (next == text.length() || text.charAt(next) != '"') {
                            break;
                        }
                        next++;
                    }
                    meaning.append(c);
                }
            } else {
                while (now() >= 32 && now() <= 126 && now() != ',' && now() != '"') {
                    meaning.append(now());
                    next++;
                }
            }
            if (now() != ',' && now() != '\n') {
                throw new Fault(next);
            }
            return new Cell(meaning.toString(), quoted);
        }

        Table table() {
            Table table = new Table();
            boolean more = true;
            while (more) {
                int begin = next;
                if (table.names.size() == 16) {
                    throw new Fault(begin);
                }
                String name = cell().text;
                if (name.isEmpty() || name.length() > 20 || table.names.contains(name)) {
                    throw new Fault(begin);
                }
                table.names.add(name);
                more = now() == ',';
                next++;
            }
            while (next < text.length()) {
                if (table.rows.size() == 499) {
                    throw new Fault(next);
                }
                table.rows.add(row(table.names.size()));
            }
            return table;
        }

        List<Cell> row(int many) {
            List<Cell> cells = new ArrayList<>();
            while (true) {
                int begin = next;
                if (cells.size() == many) {
                    throw new Fault(begin);
                }
                Cell cell = cell();
                if (cell.text.length() > 40) {
                    throw new Fault(begin);
                }
                cells.add(cell);
                if (now() == '\n') {
                    if (cells.size() < many) {
                        throw new Fault(next);
                    }
                    next++;
                    return cells;
                }
                next++;
            }
        }
    }

    private int addTable(Table table, int bytes) {
        need(tables.size() < 40 && textBytes + bytes <= 65536, 12);
        textBytes += bytes;
        tables.add(table);
        return tables.size();
    }

    int table() {
        return answer(() -> {
            String text = takeTray();
            return withPlace(() -> addTable(new TableReader(text).table(), text.length()));
        });
    }

    int rows(int t) {
        return answer(() -> findTable(t).rows.size());
    }

    int named(int t) {
        return answer(() -> {
            String name = takeTray();
            int c = findTable(t).names.indexOf(name);
            need(c >= 0, 14);
            return c;
        });
    }

    private static boolean fitsColumn(Cell cell, int lane) {
        String s = cell.text;
        if (cell.quoted) {
            return false;
        }
        return switch (lane) {
            case 0 -> s.equals("true") || s.equals("false");
            case 4 -> s.matches("-?[0-9]{1,10}") && new BigInteger(s).bitLength() <= 31;
            case 5 -> s.matches("-?[0-9]{1,19}") && new BigInteger(s).bitLength() <= 63;
            default -> s.matches("-?[0-9]+(\\.[0-9]+)?") && s.replaceAll("[^0-9]", "").length() <= 15;
        };
    }

    private List<Cell> columnCells(int t, int c) {
        Table table = findTable(t);
        need(c >= 0 && c < table.names.size(), 2);
        List<Cell> cells = new ArrayList<>();
        table.rows.forEach(row -> cells.add(row.get(c)));
        return cells;
    }

    private static int laneOf(List<Cell> cells) {
        List<Cell> there = new ArrayList<>(cells);
        there.removeIf(Cell::missing);
        for (int lane : new int[] {0, 4, 5, 7}) {
            if (!there.isEmpty() && there.stream().allMatch(cell -> fitsColumn(cell, lane))) {
                return lane;
            }
        }
        return 8;
    }

    int columnLane(int t, int c) {
        return answer(() -> laneOf(columnCells(t, c)));
    }

    int column(int t, int c) {
        return answer(() -> {
            List<Cell> cells = columnCells(t, c);
            int lane = laneOf(cells);
            TreeSet<String> words = new TreeSet<>();
            cells.stream().filter(cell -> !cell.missing()).forEach(cell -> words.add(cell.text));
            long[] bits = new long[cells.size()];
            for (int n = 0; n < bits.length; n++) {
                String s = cells.get(n).text;
                if (cells.get(n).missing()) {
                    bits[n] = lane == 8 ? -1 : 0;
                } else {
                    bits[n] = switch (lane) {
                        case 0 -> s.equals("true") ? 1 : 0;
                        case 4, 5 -> Long.parseLong(s);
                        case 7 -> Engine.bits(Double.parseDouble(s));
                        default -> words.headSet(s).size();
                    };
                }
            }
            return make(lane == 8 ? 4 : lane, new int[] {bits.length}, bits);
        });
    }

    int missing(int t, int c) {
        return answer(() -> {
            List<Cell> cells = columnCells(t, c);
            return make(0, new int[] {cells.size()}, cells.stream().mapToLong(cell -> cell.missing() ? 1 : 0).toArray());
        });
    }

    int pick(int t, int g) {
        return answer(() -> {
            Table table = findTable(t);
            Grid grid = find(g);
            need(grid.lane == 4 && grid.size.length == 1, 1);
            Table made = new Table();
            made.names.addAll(table.names);
            for (long row : grid.cells()) {
                need(row >= 0 && row < table.rows.size(), 2);
                made.rows.add(table.rows.get((int) row));
            }
            need(made.rows.size() <= 499, 12);
            return addTable(made, text(made).length());
        });
    }

    private static boolean hasBlankEnd(String s) {
        return s.startsWith(" ") || s.endsWith(" ");
    }

    private static String inQuotes(String s, boolean quoted) {
        return quoted ? "\"" + s.replace("\"", "\"\"") + "\"" : s;
    }

    private static String text(Table table) {
        StringBuilder text = new StringBuilder();
        List<String> names = new ArrayList<>();
        table.names.forEach(s -> names.add(inQuotes(s, s.contains("\"") || s.contains(",") || hasBlankEnd(s))));
        text.append(String.join(",", names)).append("\n");
        for (List<Cell> row : table.rows) {
            List<String> cells = new ArrayList<>();
            row.forEach(cell -> cells.add(inQuotes(cell.text, cell.quoted || hasBlankEnd(cell.text))));
            text.append(String.join(",", cells)).append("\n");
        }
        return text.toString();
    }

    int write(int t) {
        return answer(() -> {
            byte[] text = text(findTable(t)).getBytes(StandardCharsets.ISO_8859_1);
            need(text.length <= 30000, 12);
            out = text;
            return out.length;
        });
    }

    // ---- promises 46 to 54

    private static final int[] WIDTH = {1, 1, 2, 2, 4, 8, 4, 8};

    private static void putNumber(ByteArrayOutputStream bytes, int width, long number) {
        for (int k = width - 1; k >= 0; k--) {
            bytes.write((int) (number >> (8 * k)));
        }
    }

    private static long taken(byte[] bytes, int from, int width) {
        return new BigInteger(Arrays.copyOfRange(bytes, from, from + width)).longValue();
    }

    private static long crc(byte[] bytes, int many) {
        CRC32 crc = new CRC32();
        crc.update(bytes, 0, many);
        return crc.getValue();
    }

    private static byte[] encoded(Grid grid) {
        ByteArrayOutputStream bytes = new ByteArrayOutputStream();
        bytes.write(71);
        bytes.write(82);
        bytes.write(grid.lane);
        bytes.write(grid.size.length);
        for (int s : grid.size) {
            putNumber(bytes, 2, s);
        }
        for (long c : grid.cells()) {
            putNumber(bytes, WIDTH[grid.lane], c);
        }
        putNumber(bytes, 4, crc(bytes.toByteArray(), bytes.size()));
        return bytes.toByteArray();
    }

    int bytes(int g) {
        return answer(() -> {
            byte[] bytes = encoded(find(g));
            need(bytes.length <= 30000, 12);
            out = bytes;
            return bytes.length;
        });
    }

    int out(int i) {
        return i < 0 || i >= out.length ? -1 : out[i] & 255;
    }

    byte[] written() {
        return out;
    }

    private int decoded(byte[] bytes) {
        int end = bytes.length - 4;
        if (bytes.length < 8 || (taken(bytes, end, 4) & 0xffffffffL) != crc(bytes, end)) {
            throw new Fault(Math.max(0, end));
        }
        int lane = bytes[2];
        int axes = bytes[3];
        boolean[] fine = {bytes[0] == 71, bytes[1] == 82, isLane(lane), axes >= 0 && axes <= 4};
        for (int k = 0; k < 4; k++) {
            if (!fine[k]) {
                throw new Fault(k);
            }
        }
        int[] size = new int[axes];
        int next = 4;
        for (int k = 0; k < axes; k++) {
            if (next + 2 > end || (taken(bytes, next, 2) & 0xffff) > 4096) {
                throw new Fault(next);
            }
            size[k] = (int) taken(bytes, next, 2);
            next += 2;
        }
        List<Long> cells = new ArrayList<>();
        for (long n = product(size); n > 0; n--) {
            if (next + WIDTH[lane] > end) {
                throw new Fault(next);
            }
            long bits = taken(bytes, next, WIDTH[lane]);
            bits = lane == 3 ? bits & 0xffff : lane == 6 ? bits & 0xffffffffL : bits;
            if (!holds(lane, bits)) {
                throw new Fault(next);
            }
            cells.add(bits);
            next += WIDTH[lane];
        }
        if (next < end) {
            throw new Fault(next);
        }
        return make(lane, size, cells.stream().mapToLong(c -> c).toArray());
    }

    int read() {
        return answer(() -> {
            byte[] bytes = takeTray().getBytes(StandardCharsets.ISO_8859_1);
            return withPlace(() -> decoded(bytes));
        });
    }

    private static boolean isName(String s) {
        return s.matches("[!-~]{1,20}");
    }

    private static long sum(byte[] bytes, int from, int to) {
        long s = 0;
        for (int k = from; k < to; k++) {
            s = Long.rotateLeft(s ^ (bytes[k] & 255), 27) * 0x9E3779B97F4A7C15L;
        }
        return s;
    }

    int keep(int g) {
        return answer(() -> {
            String name = takeTray();
            Grid grid = find(g);
            need(isName(name), 1);
            byte[] body = encoded(grid);
            int many = 4 + 1 + name.length() + body.length + 8;
            need(body.length <= 30000 && log.length + many <= 60000, 12);
            ByteArrayOutputStream record = new ByteArrayOutputStream();
            putNumber(record, 4, many);
            record.write(name.length());
            record.writeBytes(name.getBytes(StandardCharsets.ISO_8859_1));
            record.writeBytes(body);
            putNumber(record, 8, sum(record.toByteArray(), 0, record.size()));
            lastRecord = log.length;
            log = Arrays.copyOf(log, log.length + many);
            System.arraycopy(record.toByteArray(), 0, log, lastRecord, many);
            return log.length;
        });
    }

    private String nameAt(int at) {
        return new String(log, at + 5, log[at + 4], StandardCharsets.ISO_8859_1);
    }

    int open() {
        return answer(() -> {
            String name = takeTray();
            byte[] found = null;
            for (int at = 0; at < log.length; at += (int) taken(log, at, 4)) {
                if (nameAt(at).equals(name)) {
                    found = Arrays.copyOfRange(log, at + 5 + name.length(), at + (int) taken(log, at, 4) - 8);
                }
            }
            need(found != null, 14);
            return decoded(found);
        });
    }

    int logged() {
        return log.length;
    }

    boolean poke(int i, int mask) {
        if (!closed || i < 0 || i >= log.length) {
            return false;
        }
        log[i] ^= (byte) mask;
        return true;
    }

    boolean crash(int n) {
        if (closed || n < 0) {
            return false;
        }
        log = Arrays.copyOf(log, (int) Math.min(log.length, (long) lastRecord + n));
        closed = true;
        Collections.fill(grids, null);
        Collections.fill(tables, null);
        int born = formulas.born;
        formulas = new Reference();
        formulas.born = born;
        Arrays.fill(bound, null);
        sizes = new ArrayList<>();
        indexes = new ArrayList<>();
        code = 0;
        place = -1;
        failed = null;
        out = new byte[0];
        return true;
    }

    /** Whether a record that is as it was written begins at a place. */
    private boolean isRecord(int at) {
        if (at + 4 > log.length) {
            return false;
        }
        long many = taken(log, at, 4);
        if (many < 13 || at + many > log.length) {
            return false;
        }
        int end = (int) (at + many - 8);
        return taken(log, end, 8) == sum(log, at, end);
    }

    int reopen() {
        if (!closed) {
            return -13;
        }
        if (opened == 10) {
            return -12;
        }
        opened++;
        closed = false;
        Set<String> names = new HashSet<>();
        int at = 0;
        lastRecord = 0;
        while (isRecord(at)) {
            names.add(nameAt(at));
            lastRecord = at;
            at += (int) taken(log, at, 4);
        }
        log = Arrays.copyOf(log, at);
        return names.size();
    }
}
