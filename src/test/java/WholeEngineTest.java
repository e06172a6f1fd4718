import java.nio.charset.StandardCharsets;
import java.util.Arrays;
import java.util.Random;

/** All promises: random runs of calls, most of them with a meaning, against the model. */
final class WholeEngineTest {
    private final Random random;
    private final GridEngine x = new GridEngine();
    private final Model m = new Model();
    private final int kind;
    private final int fullest;
    private int made;
    private int tables;
    private String run;

    private WholeEngineTest(int seed) {
        random = new Random(seed);
        kind = seed % 6;
        fullest = seed / 6 % 8;
        run = "run " + seed + ": ";
    }

    public static void main(String[] args) {
        int from = args.length > 1 ? Integer.parseInt(args[1]) : 0;
        int runs = args.length > 0 ? Integer.parseInt(args[0]) : 360;
        for (int seed = from; seed < from + runs; seed++) {
            new WholeEngineTest(seed).play();
        }
        Due.finish();
    }

    private int among(int n) {
        return random.nextInt(n);
    }

    private <T> T one(T[] some) {
        return some[among(some.length)];
    }

    private int same(String call, long got, long want) {
        Due.due(run + call, got, want);
        if (want > made && (call.startsWith("!"))) {
            made = (int) want;
        }
        return (int) want;
    }

    private void play() {
        int turns = 60 + among(kind == 0 ? 400 : 160);
        fillUp();
        for (int turn = 0; turn < turns; turn++) {
            call();
            told();
            if (turn % 20 == 19) {
                all();
            }
        }
        all();
    }

    /** Some runs begin where one of the rows is full, or nearly so. */
    private void fillUp() {
        switch (fullest) {
            case 1:
                row(1 + among(7), 4000, 24);
                row(among(8), 4000 - among(3) * among(60), -1);
                break;
            case 2:
                row(4, 2, -1);
                for (int n = 389 + among(11); n > 0; n--) {
                    same("!turned", x.turned(1, 0, 0), m.turned(1, 0, 0));
                }
                break;
            case 3:
                fillLog();
                break;
            case 4:
                for (int n = 34 + among(7); n > 0; n--) {
                    aTable("n,m\n1,x\n");
                }
                break;
            case 5:
                fillTexts();
                break;
            case 6:
                for (int n = 33 + among(8); n > 0; n--) {
                    feed("int f" + n + "(int x) = x + " + n + ";");
                    same("functions", x.functions(), m.functions());
                }
                break;
            default:
                break;
        }
    }

    private int row(int lane, int n, int r) {
        same("axis", x.axis(n), m.axis(n));
        if (r >= 0) {
            same("axis", x.axis(r), m.axis(r));
        }
        return same("!grid", x.grid(lane), m.grid(lane));
    }

    private void fillLog() {
        int g = row(5, 3700, -1);
        feed("a");
        same("keep", x.keep(g), m.keep(g));
        feed("b");
        same("keep", x.keep(g), m.keep(g));
        g = row(1, 700 - among(4) * among(60), -1);
        feed("ab");
        same("keep", x.keep(g), m.keep(g));
    }

    private void fillTexts() {
        aTable("n,m,o\n\"" + "x".repeat(40) + "\"," + "y".repeat(40) + "," + "1".repeat(38 + among(3)) + "\n");
        pickZeros(495);
        pickZeros(28 + among(8));
    }

    private void pickZeros(int rows) {
        int g = row(4, rows, -1);
        tables = Math.max(tables, same("pick", x.pick(1, g), m.pick(1, g)));
    }

    /** What was told last. */
    private void told() {
        same("code()", x.code(), m.code());
        same("place()", x.place(), m.place());
        same("steps()", x.steps(), m.steps());
        same("logged()", x.logged(), m.logged());
        for (int n = -1; n < 5; n++) {
            same("failed(" + n + ")", x.failed(n), m.failed(n));
        }
    }

    /** All grids and tables. */
    private void all() {
        for (int g = 0; g <= made + 1; g++) {
            same("lane", x.lane(g), m.lane(g));
            same("axes", x.axes(g), m.axes(g));
            int cells = same("cells", x.cells(g), m.cells(g));
            for (int k = -1; k < 5; k++) {
                same("size", x.size(g, k), m.size(g, k));
            }
            int stride = cells > 300 ? 1 + cells / 97 : 1;
            for (int n = -1; n <= cells; n += stride) {
                same("cell(" + g + ", " + n + ")", x.cell(g, n), m.cell(g, n));
            }
        }
        for (int t = 0; t <= tables + 1; t++) {
            same("rows", x.rows(t), m.rows(t));
            for (int c = -1; c < 4; c++) {
                same("columnLane", x.columnLane(t, c), m.columnLane(t, c));
            }
        }
        outBytes();
    }

    private void outBytes() {
        byte[] out = m.written();
        int stride = out.length > 300 ? 1 + out.length / 97 : 1;
        for (int i = -1; i <= out.length; i += stride) {
            same("out(" + i + ")", x.out(i), m.out(i));
        }
    }

    private int grid() {
        return among(30) == 0 ? among(3) - 1 : made == 0 ? 1 : among(12) == 0 ? made + 1 : 1 + among(made);
    }

    /** A late one is likely to be there still. */
    private int late() {
        return made == 0 || among(4) == 0 ? grid() : Math.max(1, made - among(6));
    }

    private int aTable() {
        return among(20) == 0 ? among(60) - 1 : Math.max(1, tables - among(4));
    }

    private int lane() {
        return among(25) == 0 ? among(12) - 2 : among(8);
    }

    private void feed(String text) {
        byte[] bytes = text.getBytes(StandardCharsets.ISO_8859_1);
        if (among(40) != 0) {
            same("end(0)", x.end(0), m.end(0));
        }
        int begin = -1;
        for (int from = 0; from == 0 || from < bytes.length; from += 20) {
            int[] w = new int[5];
            for (int k = 0; k < 20; k++) {
                w[k / 4] = w[k / 4] << 8 | (from + k < bytes.length ? bytes[from + k] : among(256)) & 255;
            }
            int now = same("feed", x.feed(w[0], w[1], w[2], w[3], w[4]), m.feed(w[0], w[1], w[2], w[3], w[4]));
            begin = from == 0 ? now - 20 : begin;
        }
        int n = begin + bytes.length + (among(60) == 0 ? among(7) - 3 : 0);
        same("end", x.end(n), m.end(n));
    }

    private void sizes(int most) {
        for (int k = among(most + 1); k > 0; k--) {
            int s = among(40) == 0 ? among(5000) - 100 : among(20) == 0 ? 0 : 1 + among(kind == 1 ? 60 : 4);
            same("axis(" + s + ")", x.axis(s), m.axis(s));
        }
    }

    private void newGrid() {
        sizes(among(30) == 0 ? 5 : among(3) == 0 ? 1 + among(4) : 1);
        int lane = lane();
        int g = same("!grid(" + lane + ")", x.grid(lane), m.grid(lane));
        if (g > 0 && m.cells(g) <= 40) {
            fill(g);
        }
    }

    private void spotOf(int g, int n) {
        int rest = n;
        int[] spot = new int[Math.max(0, m.axes(g))];
        for (int k = spot.length - 1; k >= 0; k--) {
            int s = Math.max(1, m.size(g, k));
            spot[k] = rest % s;
            rest /= s;
        }
        for (int i : spot) {
            int there = among(200) == 0 ? among(9) - 4 : i;
            same("at", x.at(there), m.at(there));
        }
        if (among(100) == 0) {
            same("at", x.at(0), m.at(0));
        }
    }

    private void fill(int g) {
        int lane = m.lane(g);
        for (int n = 0; n < m.cells(g); n++) {
            if (among(6) == 0) {
                continue;
            }
            spotOf(g, n);
            int from = among(10) == 0 ? lane() : lane;
            long bits = among(3) == 0 || from < 0 || from > 7 ? among(4) : ArithmeticTest.randomBits(from);
            same("put(" + g + ", " + from + ", " + bits + ")", x.put(g, from, bits), m.put(g, from, bits));
        }
    }

    private void getOne() {
        int g = grid();
        spotOf(g, among(12));
        same("get(" + g + ")", x.get(g), m.get(g));
    }

    private String number() {
        return (among(4) == 0 ? "-" : "") + (among(30) == 0 ? "999999999" : among(60) == 0 ? "1234567890" : "" + among(among(4) == 0 ? 12 : 4));
    }

    private String maybe(String s) {
        return among(2) == 0 ? s : "";
    }

    private String blanks() {
        return among(8) == 0 ? " ".repeat(1 + among(2)) : "";
    }

    private String viewText() {
        StringBuilder b = new StringBuilder(blanks());
        int items = among(4);
        for (int k = 0; k < items; k++) {
            b.append(k > 0 ? "," : "").append(blanks());
            int way = among(5);
            if (way == 0) {
                b.append("*");
            } else if (way == 1) {
                b.append(number());
            } else {
                b.append(maybe(number())).append(blanks()).append(":").append(blanks()).append(maybe(number()));
                b.append(maybe(blanks() + ":" + blanks() + maybe(number())));
            }
            b.append(blanks());
        }
        return spoilt(b.toString(), "0123456789-:,* x", 8);
    }

    private String spoilt(String text, String letters, int seldom) {
        if (among(seldom) != 0) {
            return text;
        }
        StringBuilder b = new StringBuilder(text);
        int p = among(b.length() + 1);
        switch (among(3)) {
            case 0:
                b.setLength(p);
                break;
            case 1:
                b.insert(p, letters.charAt(among(letters.length())));
                break;
            default:
                if (p < b.length()) {
                    b.deleteCharAt(p);
                }
                break;
        }
        return b.toString();
    }

    private static final String[] FORMULAS = {
        "a", "a + b", "a * 2 + i", "i + 10 * j", "a / b", "a % 3", "(double) a / 7.0", "a > b ? a : b", "a == a", "f(a)", "f(a) + g(a, b)",
        "min(a, b)", "max(c, 1)", "abs(a)", "sign(b)", "sqrt(a)", "round(a)", "(byte) a", "(char) a", "(long) (a + c)", "(float) i / 3.0F",
        "addexact(a, b)", "mulexact(a, 65536)", "floordiv(a, b)", "bits(a)", "high(b)", "a & b", "!(a < b) || c > 0 && 1 / c > 0", "a ? 1 : 2",
        "a << 3", "b >>> 1", "1.5", "true", "i * 0", "h", "k + l", "-a", "~a", "a + true", "d", "(((((a)))))", "1 / 0", "g(1, 2)", "f(true)"
    };
    private static final String[] FUNCTIONS = {
        "int f(int x) = x * 2;", "long f(long x) = x + 1L;", "double f(double x) = x / 2.0;", "int g(int x, int y) = x - y;",
        "long g(long x, int y) = x; long g(int x, long y) = y;", "boolean f(boolean b) = !b;", "int h(int x) = f(x) + f(x);", "",
        "int f(byte x) = x; int f(char x) = 3;", "int p(int x) = q(x);", "int r(int x) = x", "short s(byte x) = x; int f(int x) = 7;"
    };

    private void formulaCall() {
        for (int n = 0; n < 3; n++) {
            if (among(2) == 0) {
                int g = late();
                int k = among(40) == 0 ? among(12) - 2 : among(4);
                same("bind", x.bind(k, g), m.bind(k, g));
            }
        }
        String text = spoilt(one(FORMULAS), "ab+-()?:1.,;fg ", 12);
        feed(text);
        same("!formula <" + text + ">", x.formula(), m.formula());
    }

    private void functionsCall() {
        String text = spoilt(one(FUNCTIONS) + maybe(one(FUNCTIONS)), "ab+-()?:1.,;fg ", 10);
        feed(text);
        same("functions <" + text + ">", x.functions(), m.functions());
    }

    private void chooseCall() {
        for (int k = among(4); k > 0; k--) {
            int lane = among(15) == 0 ? 8 : among(8);
            same("axis", x.axis(lane), m.axis(lane));
        }
        feed(one(new String[] {"f", "g", "h", "s", "zz", ""}));
        same("choose", x.choose(), m.choose());
    }

    private static final String[] CELLS = {
        "", "", "1", "-7", "2.5", "-0.0", "true", "false", "x", "yz", " a", "b ", "3000000000", "\"q\"", "\"\"", "\"a,b\"", "\"c\"\"d\"", "00", "-0",
        "2147483648", "9223372036854775807", "9223372036854775808", "123456789012.345", "1234567890123.456", "abcdefghijabcdefghijabcdefghijabcdefghij",
        "abcdefghijabcdefghijabcdefghijabcdefghijk"
    };

    private String tableText() {
        int columns = 1 + among(3);
        StringBuilder b = new StringBuilder();
        String[] names = {"n", "m", "\"q,\"", " o", "\"p\"", "a\"", "long name of twenty b", "n"};
        int first = among(5);
        for (int c = 0; c < columns; c++) {
            b.append(c > 0 ? "," : "").append(names[among(30) == 0 ? among(names.length) : first - first + c + (first == 4 ? 2 : 0)]);
        }
        b.append("\n");
        int kinds = among(3);
        for (int r = among(6); r > 0; r--) {
            for (int c = 0; c < columns; c++) {
                String cell = kinds == 0 ? CELLS[among(4)] : kinds == 1 ? CELLS[among(12)] : CELLS[among(CELLS.length - 3 + among(4))];
                b.append(c > 0 ? "," : "").append(cell);
            }
            b.append("\n");
        }
        return spoilt(b.toString(), "\",\n1 \u0080a", 10);
    }

    private void aTable(String text) {
        feed(text);
        int t = same("table <" + text + ">", x.table(), m.table());
        tables = Math.max(tables, t);
    }

    private void tableCall() {
        aTable(tableText());
    }

    private void tableUse() {
        int t = aTable();
        int c = among(20) == 0 ? among(30) - 5 : among(3);
        switch (among(6)) {
            case 0:
                feed(one(new String[] {"n", "m", "q,", " o", "p", "", "zz"}));
                same("named", x.named(t), m.named(t));
                break;
            case 1:
                same("!column", x.column(t, c), m.column(t, c));
                break;
            case 2:
                same("!missing", x.missing(t, c), m.missing(t, c));
                break;
            case 3:
                same("write", x.write(t), m.write(t));
                break;
            default:
                pickCall(t);
                break;
        }
    }

    private void pickCall(int t) {
        int rows = Math.max(1, m.rows(t));
        int n = kind == 3 && among(3) == 0 ? 400 + among(110) : among(5);
        same("axis", x.axis(n), m.axis(n));
        int g = same("!grid(4)", x.grid(4), m.grid(4));
        if (g > 0) {
            same("bind", x.bind(7, g), m.bind(7, g));
            feed("h + " + (among(15) == 0 ? "(i - 1)" : "i") + " % " + (rows + (among(15) == 0 ? 1 : 0)));
            g = same("!formula", x.formula(), m.formula());
        }
        int at = among(10) == 0 ? grid() : g;
        tables = Math.max(tables, same("pick", x.pick(t, at), m.pick(t, at)));
    }

    private void bytesCall() {
        int g = grid();
        same("bytes(" + g + ")", x.bytes(g), m.bytes(g));
        if (m.written().length < 400) {
            byte[] bytes = m.written().clone();
            if (among(3) == 0 && bytes.length > 4) {
                bytes = changed(bytes);
            }
            feed(new String(bytes, StandardCharsets.ISO_8859_1));
            same("!read", x.read(), m.read());
        }
    }

    /** Bytes that are not as they were, but most times with a right check. */
    private byte[] changed(byte[] bytes) {
        int body = bytes.length - 4;
        byte[] other = Arrays.copyOf(bytes, Math.max(4, body + among(5) - 2) + 4);
        body = other.length - 4;
        int p = among(3) == 0 ? among(body) : among(Math.min(body, 9));
        other[p] = (byte) (among(2) == 0 ? among(256) : other[p] ^ 1 << among(8));
        java.util.zip.CRC32 crc = new java.util.zip.CRC32();
        crc.update(other, 0, body);
        for (int k = 0; k < 4; k++) {
            other[body + k] = (byte) (crc.getValue() >> (24 - 8 * k));
        }
        if (among(5) == 0) {
            other[among(other.length)]++;
        }
        return other;
    }

    private static final String[] NAMES = {"a", "b", "ab", "!", "abcdefghijabcdefghij", "abcdefghijabcdefghijk", "", "a b"};

    private void logCall() {
        String name = NAMES[among(12) == 0 ? among(NAMES.length) : among(4)];
        int g = late();
        feed(name);
        if (among(3) == 0) {
            same("!open", x.open(), m.open());
        } else {
            same("keep", x.keep(g), m.keep(g));
        }
    }

    private void crashCall() {
        int n = among(20) == 0 ? -1 : among(3) == 0 ? 100000 : among(60);
        same("crash(" + n + ")", x.crash(n) ? 1 : 0, m.crash(n) ? 1 : 0);
        told();
        for (int k = among(4); k > 0; k--) {
            call();
        }
        if (among(3) == 0) {
            int i = among(Math.max(1, m.logged() + 2));
            int mask = among(4) == 0 ? 256 : random.nextInt();
            same("poke(" + i + ")", x.poke(i, mask) ? 1 : 0, m.poke(i, mask) ? 1 : 0);
        }
        same("reopen()", x.reopen(), m.reopen());
    }

    private void orderCall() {
        int g = late();
        int h = late();
        switch (among(5)) {
            case 0:
                boolean falling = random.nextBoolean();
                same("!sorted", x.sorted(g, falling), m.sorted(g, falling));
                break;
            case 1:
                long bits = among(2) == 0 ? among(5) : ArithmeticTest.randomBits(Math.max(0, m.lane(g)));
                same("search", x.search(g, bits), m.search(g, bits));
                break;
            case 2:
            case 3:
                h = among(2) == 0 ? g : h;
                int way = among(8) == 0 ? among(12) - 1 : m.lane(h) == 0 ? 5 + among(3) : among(5);
                int keys = same("!groups", x.groups(g, h, way), m.groups(g, h, way));
                made = keys > 0 ? keys + 1 : made;
                break;
            default:
                same("!join", x.join(g, h), m.join(g, h));
                break;
        }
    }

    private void matrixCall() {
        int g = late();
        int h = late();
        if (among(2) == 0) {
            int n = 1 + among(3);
            int lane = 1 + among(4);
            g = square(lane, n, n);
            h = square(among(10) == 0 ? 5 : lane, n + (among(10) == 0 ? 1 : 0), -1);
        }
        switch (among(3)) {
            case 0:
                int r = among(4);
                int a = among(3) == 0 ? g : square(1 + among(7), 1 + among(3), r);
                int b = among(3) == 0 ? h : square(1 + among(7), among(12) == 0 ? r + 1 : r, among(3));
                same("!product", x.product(a, b), m.product(a, b));
                break;
            case 1:
                int s = same("!solve", x.solve(g, h), m.solve(g, h));
                made = s > 0 ? s + 1 : made;
                break;
            default:
                int p = one(new Integer[] {3, 5, 17, 97, 12289, 1000000007, 9, 2, 1000000009, 998244353});
                boolean back = random.nextBoolean();
                same("!residues", x.residues(h, p, back), m.residues(h, p, back));
                break;
        }
    }

    private int square(int lane, int n, int r) {
        same("axis", x.axis(n), m.axis(n));
        if (r >= 0) {
            same("axis", x.axis(r), m.axis(r));
        }
        int g = same("!grid", x.grid(lane), m.grid(lane));
        if (g > 0) {
            fill(g);
        }
        return g;
    }

    private void foldCall() {
        int g = late();
        int lane = m.lane(g);
        int way = among(8) == 0 ? among(11) - 1 : lane == 0 ? 5 + among(3) : lane > 5 && among(4) == 0 ? 8 : among(5);
        int axis = among(8) == 0 ? among(6) - 2 : Math.min(among(4), Math.max(0, m.axes(g))) - 1;
        if (among(2) == 0) {
            same("!fold(" + g + ", " + way + ", " + axis + ")", x.fold(g, way, axis), m.fold(g, way, axis));
        } else if (m.cells(g) <= 300) {
            same("!running(" + g + ", " + way + ", " + axis + ")", x.running(g, way, axis), m.running(g, way, axis));
        }
    }

    private void viewCall() {
        int g = late();
        switch (among(6)) {
            case 0:
                int a = among(5) - 1;
                int b = among(4);
                same("!turned", x.turned(g, a, b), m.turned(g, a, b));
                break;
            case 1:
                sizes(4);
                same("!spread", x.spread(g), m.spread(g));
                break;
            case 2:
                spreadLike(g);
                break;
            case 3:
                shape(g);
                break;
            default:
                String text = viewText();
                feed(text);
                same("!view <" + text + ">", x.view(g), m.view(g));
                break;
        }
    }

    private void spreadLike(int g) {
        if (among(2) == 0) {
            int s = among(kind == 1 ? 4097 : 5);
            same("axis", x.axis(s), m.axis(s));
        }
        for (int k = 0; k < m.axes(g); k++) {
            int s = m.size(g, k) == 1 && among(2) == 0 ? 3 : m.size(g, k);
            same("axis", x.axis(s), m.axis(s));
        }
        same("!spread", x.spread(g), m.spread(g));
    }

    private void shape(int g) {
        int rest = Math.max(1, m.cells(g));
        int s = rest % 2 == 0 && among(2) == 0 ? 2 : 1;
        same("axis", x.axis(s), m.axis(s));
        int other = Math.min(4096, rest / s + (among(9) == 0 ? 1 : 0));
        same("axis", x.axis(other), m.axis(other));
        same("!shaped", x.shaped(g), m.shaped(g));
    }

    private void call() {
        int g = late();
        int h = late();
        switch (among(kind == 4 ? 30 : 24)) {
            case 0: case 1: case 2: case 3:
                newGrid();
                break;
            case 4:
                getOne();
                break;
            case 5: case 6: case 7:
                viewCall();
                break;
            case 8:
                same("shares", x.shares(g, h), m.shares(g, h));
                break;
            case 9:
                same("copy(" + g + ", " + h + ")", x.copy(g, h), m.copy(g, h));
                break;
            case 10:
                int lane = lane();
                int rule = among(6) - 1;
                same("!cast(" + g + ", " + lane + ", " + rule + ")", x.cast(g, lane, rule), m.cast(g, lane, rule));
                break;
            case 11: case 12:
                formulaCall();
                break;
            case 13:
                functionsCall();
                break;
            case 14:
                chooseCall();
                break;
            case 15:
                foldCall();
                break;
            case 16:
                orderCall();
                break;
            case 17:
                matrixCall();
                break;
            case 18:
                tableCall();
                break;
            case 19:
                tableUse();
                break;
            case 20:
                bytesCall();
                break;
            case 21:
                logCall();
                break;
            case 22:
                oneCrash();
                break;
            case 23:
                fillOr(g);
                break;
            default:
                if (kind == 4 && among(2) == 0) {
                    logCall();
                } else {
                    viewCall();
                }
                break;
        }
    }

    private void oneCrash() {
        if (among(kind == 4 || kind == 5 ? 3 : 12) == 0 && !inCrash) {
            inCrash = true;
            crashCall();
            inCrash = false;
        }
    }

    private boolean inCrash;

    private void fillOr(int g) {
        if (m.cells(g) >= 0 && m.cells(g) <= 20) {
            fill(g);
        }
    }
}
