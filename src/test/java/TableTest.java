import java.util.ArrayList;
import java.util.List;
import java.util.Random;
import java.util.TreeSet;

/** Promises 38 to 45: tables from texts, their columns, picked rows, and their texts. */
final class TableTest {
    private static final Random RANDOM = new Random(13);

    private TableTest() {
    }

    public static void main(String[] args) {
        texts();
        faults();
        lanes();
        columns();
        names();
        picks();
        writes();
        limits();
        noTextBehindPicked();
        refusals();
        for (int round = 0; round < 3000; round++) {
            randomTable();
        }
        Due.finish();
    }

    private static void texts() {
        GridEngine x = new GridEngine();
        Due.due("table", Engine.table(x, "a,b\n1,2\n3,4\n"), 1);
        Due.due("rows", x.rows(1), 2);
        Due.due("names alone", Engine.table(x, "a\n"), 2);
        Due.due("rows", x.rows(2), 0);
        Due.due("lane of no cells", x.columnLane(2, 0), 8);
        Due.due("empty lines have one missing cell", Engine.table(x, "a\n\n\n"), 3);
        Due.due("rows", x.rows(3), 2);
        Due.due("place", x.place(), -1);
        Due.due("quoted names", Engine.table(x, "\"a,\"\"b\", c \n1,2\n"), 4);
        Due.due("named", Engine.named(x, 4, "a,\"b"), 0);
        Due.due("named", Engine.named(x, 4, " c "), 1);
        Due.due("named", Engine.named(x, 4, "c"), -14);
    }

    private static void fault(String text, int place) {
        GridEngine x = new GridEngine();
        Due.due("table <" + text + ">", Engine.table(x, text), -20);
        Due.due("place <" + text + ">", x.place(), place);
        Due.due("none is made", x.rows(1), -14);
        Due.due("the next one's number", Engine.table(x, "a\n"), 1);
        if (place == text.length()) {
            endsTooEarly(text);
        }
    }

    /** What stands in the tray behind the bytes that count ends nothing. */
    private static void endsTooEarly(String text) {
        for (String behind : new String[] {"\n", ",", "\"\n", ",x\n"}) {
            GridEngine x = new GridEngine();
            Engine.feed(x, text + behind);
            x.end(text.length());
            Due.due("table <" + text + "> before <" + behind + ">", x.table(), -20);
            Due.due("place", x.place(), text.length());
        }
    }

    private static void faults() {
        fault("", 0);
        fault("a", 1);
        fault("a,b", 3);
        fault("a,", 2);
        fault("\n", 0);
        fault("a,\n", 2);
        fault(",a\n", 0);
        fault("a,,b\n", 2);
        fault("\"\"\n", 0);
        fault("a,a\n", 2);
        fault("a,b,\"a\"\n", 4);
        fault("a\n1", 3);
        fault("a\n1,2\n", 4);
        fault("a\n1,\n", 4);
        fault("a\n1,", 4);
        fault("a,b\n1\n", 5);
        fault("a,b\n1,2\n\n", 8);
        fault("a,b\n1,2,", 8);
        fault("a,b\n1,2,\"", 8);
        fault("a\"\n", 1);
        fault("a\nx\"y\"\n", 3);
        fault("a\n\"x\n\"\n", 4);
        fault("a\n\"x", 4);
        fault("a\n\"x\"", 5);
        fault("a\n\"x\"y\n", 5);
        fault("a\n\"x\"\"\n", 6);
        fault("a\n\"x\"\"", 6);
        fault("a\n\"\"\"", 5);
        fault("a\n\"x\" \n", 5);
        fault("a\tb\n", 1);
        fault("a\r\n", 1);
        fault("a\n\u007f\n", 2);
        fault("a\n\u0080\n", 2);
        fault("a\n\"\u0080\"\n", 3);
        fault("b,123456789012345678901\n", 2);
        fault("b,12345678901234567890,12345678901234567890\n", 23);
        String forty = "x".repeat(40);
        fault("a,b\n1," + forty + "x\n", 6);
        fault("a,b\n1,\"" + forty + "x\"\n", 6);
        fault("a,b\n1," + forty + "x\"\n", 6 + 41);
        fault("a,b\n1," + forty + "x", 6 + 41);
        fault("a\n" + forty + "x,\n", 2);
        GridEngine x = new GridEngine();
        Due.due("40 bytes as they mean", Engine.table(x, "a\n\"" + "\"\"".repeat(40) + "\"\n"), 1);
        Due.due("41 bytes as they mean", Engine.table(x, "a\n\"" + "\"\"".repeat(41) + "\"\n"), -20);
        Due.due("place", x.place(), 2);
        StringBuilder names = new StringBuilder("c0");
        for (int k = 1; k < 16; k++) {
            names.append(",c").append(k);
        }
        Due.due("16 names", Engine.table(x, names + "\n"), 2);
        fault(names + ",\n", names.length() + 1);
        fault(names + ",\"", names.length() + 1);
        fault(names + ",c1\n", names.length() + 1);
        Due.due("500 lines", Engine.table(x, "a\n".repeat(1) + "\n".repeat(499)), 3);
        Due.due("rows", x.rows(3), 499);
        fault("a\n" + "\n".repeat(500), 501);
        fault("a\n" + "\n".repeat(499) + "\"", 501);
    }

    private static void lane(String cells, int want) {
        GridEngine x = new GridEngine();
        StringBuilder text = new StringBuilder("a\n");
        for (String cell : cells.split(" ")) {
            text.append(cell.equals("_") ? "" : cell).append("\n");
        }
        Due.due("table <" + cells + ">", Engine.table(x, text.toString()), 1);
        Due.due("lane <" + cells + ">", x.columnLane(1, 0), want);
    }

    private static void lanes() {
        lane("true false _", 0);
        lane("_ _", 8);
        lane("true 1", 8);
        lane("True", 8);
        lane("truee", 8);
        lane("1 -2 _", 4);
        lane("-0", 4);
        lane("2147483647 -2147483648", 4);
        lane("2147483648", 5);
        lane("-2147483649 1", 5);
        lane("0000000001", 4);
        lane("00000000001", 5);
        lane("9223372036854775807 -9223372036854775808", 5);
        lane("9223372036854775808", 8);
        lane("-9223372036854775809", 8);
        lane("0000000000000000001", 5);
        lane("00000000000000000001", 8);
        lane("1.5", 7);
        lane("1.5 2 -3", 7);
        lane("1.5 123456789012345", 7);
        lane("1.5 1234567890123456", 8);
        lane("123456789012.345", 7);
        lane("1234567890123.456", 8);
        lane("0.00000000000001", 7);
        lane("0.000000000000001", 8);
        lane("1. 2", 8);
        lane(".5", 8);
        lane("-.5", 8);
        lane("-", 8);
        lane("--1", 8);
        lane("1.2.3", 8);
        lane("+1", 8);
        lane("1e5", 8);
        lane("\"1\" 2", 8);
        lane("\"true\"", 8);
        lane("\"\" 1", 8);
        lane("1 x", 8);
        lane("99999999999999999999999999 1", 8);
    }

    private static void columns() {
        GridEngine x = new GridEngine();
        Engine.table(x, "b,i,l,d,t\ntrue,1,3000000000,-0.0,zeta\nfalse,-2,-1,0.1,\n,,,,\"\"\ntrue,3,4,2,\"zeta\"\n,0,0,-7,Zeta\n");
        int b = x.column(1, 0);
        Due.due("lane", x.lane(b), 0);
        Due.due("booleans", Engine.cells(x, b), 1, 0, 0, 1, 0);
        int i = x.column(1, 1);
        Due.due("lane", x.lane(i), 4);
        Due.due("ints", Engine.cells(x, i), 1, -2, 0, 3, 0);
        int l = x.column(1, 2);
        Due.due("lane", x.lane(l), 5);
        Due.due("longs", Engine.cells(x, l), 3000000000L, -1, 0, 4, 0);
        int d = x.column(1, 3);
        Due.due("lane", x.lane(d), 7);
        Due.due("doubles", Engine.cells(x, d), Engine.bits(-0.0), Engine.bits(0.1), 0, Engine.bits(2.0), Engine.bits(-7.0));
        int t = x.column(1, 4);
        Due.due("lane", x.lane(t), 4);
        Due.due("words", Engine.cells(x, t), 2, -1, 0, 2, 1);
        Due.due("missing", Engine.cells(x, x.missing(1, 4)), 0, 1, 0, 0, 0);
        Due.due("missing", Engine.cells(x, x.missing(1, 0)), 0, 0, 1, 0, 1);
        Due.due("lane of missing", x.lane(x.missing(1, 1)), 0);
        Engine.table(x, "n,t\n9223372036854775807,a\n-9223372036854775808,ab\n0000000000000000001,B\n");
        Due.due("longs", Engine.cells(x, x.column(2, 0)), Long.MAX_VALUE, Long.MIN_VALUE, 1);
        Due.due("words by bytes", Engine.cells(x, x.column(2, 1)), 1, 2, 0);
        Engine.table(x, "a,b\n,\n");
        Due.due("no words", Engine.cells(x, x.column(3, 0)), -1);
        Engine.table(x, "a\n");
        Due.due("no rows", Engine.shape(x, x.column(4, 0)), "0");
        Due.due("no rows", Engine.shape(x, x.missing(4, 0)), "0");
        Due.due("column 2", x.column(3, 2), -2);
        Due.due("column -1", x.column(3, -1), -2);
        Due.due("missing 2", x.missing(3, 2), -2);
        Due.due("columnLane 2", x.columnLane(3, 2), -2);
        Due.due("columnLane -1", x.columnLane(3, -1), -2);
    }

    /** Whatever number of cells the engine has by then, a text of nothing is a fault at 0. */
    private static void noTextBehindPicked() {
        for (int rows = 0; rows < 300; rows++) {
            GridEngine x = new GridEngine();
            Engine.table(x, "a\n\n");
            Due.due("pick", x.pick(1, Engine.grid(x, 4, new int[] {rows})), 2);
            Due.due("no text", Engine.table(x, ""), -20);
            Due.due("place", x.place(), 0);
            Due.due("a name alone", Engine.table(x, "a"), -20);
            Due.due("place", x.place(), 1);
            Due.due("a table", Engine.table(x, "a\n\n"), 3);
        }
    }

    private static void names() {
        GridEngine x = new GridEngine();
        Engine.table(x, "ab,b,abc\n");
        Due.due("ab", Engine.named(x, 1, "ab"), 0);
        Due.due("abc", Engine.named(x, 1, "abc"), 2);
        Due.due("a", Engine.named(x, 1, "a"), -14);
        Due.due("nothing", Engine.named(x, 1, ""), -14);
        Due.due("no table", Engine.named(x, 2, "ab"), -14);
        Due.due("the tray is used up", x.named(1), -14);
    }

    private static String text(GridEngine x, int t) {
        return Engine.writtenText(x, x.write(t));
    }

    private static void picks() {
        GridEngine x = new GridEngine();
        Engine.table(x, "a,\"b \"\n1,x\n2.5,\"y\"\n,\"1\"\n");
        int g = Engine.ints(x, 2, 0, 0);
        Due.due("pick", x.pick(1, g), 2);
        Due.due("text", text(x, 2), "a,\"b \"\n,\"1\"\n1,x\n1,x\n");
        Due.due("lane before", x.columnLane(1, 0), 7);
        Due.due("lanes are guessed anew", x.columnLane(2, 0), 4);
        Due.due("in quotes it stays text", x.columnLane(x.pick(1, Engine.ints(x, 2)), 1), 8);
        Due.due("no rows", x.rows(x.pick(1, Engine.grid(x, 4, new int[] {0}))), 0);
        Due.due("a row that there is not", x.pick(1, Engine.ints(x, 0, 3)), -2);
        Due.due("a row below 0", x.pick(1, Engine.ints(x, -1)), -2);
        Due.due("a row, just the lowest bits", x.pick(1, Engine.ints(x, 1 << 16)), -2);
        Due.due("bytes", x.pick(1, Engine.row(x, 1, 0)), -1);
        Due.due("longs", x.pick(1, Engine.row(x, 5, 0)), -1);
        Due.due("two axes", x.pick(1, Engine.grid(x, 4, new int[] {1, 1})), -1);
        Due.due("no table", x.pick(9, g), -14);
        Due.due("no grid", x.pick(1, 99), -14);
        Due.due("a view", text(x, x.pick(1, Engine.view(x, g, "::-1"))), "a,\"b \"\n1,x\n1,x\n,\"1\"\n");
        int one = x.grid(4);
        x.axis(499);
        Due.due("499 rows", x.rows(x.pick(1, x.spread(one))), 499);
        x.axis(500);
        Due.due("500 rows", x.pick(1, x.spread(one)), -12);
        int beyond = Engine.row(x, 4, 3);
        x.axis(500);
        Due.due("2 before 12", x.pick(1, x.spread(beyond)), -2);
    }

    private static void writes() {
        GridEngine x = new GridEngine();
        String[] texts = {
            "a,b\n1,2\n", "a\n\n\n", "\"a,b\",\"c\"\"d\"\n\"x\",y\n", "\" a\"\n\" b\"\n", "a\n\"\"\n\n\"\"\"\"\n", "a\n\"a,b\"\n"
        };
        for (String text : texts) {
            int t = Engine.table(x, text);
            Due.due("text of a table", text(x, t), text);
        }
        int t = Engine.table(x, "\"q\", p,r \n x, ,\"s\"\n");
        Due.due("text", text(x, t), "q,\" p\",\"r \"\n\" x\",\" \",\"s\"\n");
        Due.due("out(0)", x.out(0), 'q');
        Due.due("out beyond", x.out(x.write(t)), -1);
        Due.due("out below", x.out(-1), -1);
        Due.due("write of none", x.write(99), -14);
        Due.due("what was written stays", x.out(0), 'q');
        GridEngine y = new GridEngine();
        String row = "x".repeat(40);
        Engine.table(y, "abcde,b\n" + row + "," + "y".repeat(18) + "\n");
        int g = y.grid(4);
        y.axis(499);
        int big = y.pick(1, y.spread(g));
        Due.due("length", y.write(big), 8 + 499 * 60);
        GridEngine w = new GridEngine();
        Engine.table(w, "a".repeat(20) + "," + "b".repeat(20) + "," + "c".repeat(17) + "\n" + row + "," + "y".repeat(10) + "," + "z".repeat(7) + "\n");
        int only = w.grid(4);
        w.axis(499);
        Due.due("30000 bytes", w.write(w.pick(1, w.spread(only))), 30000);
        Due.due("the last one", w.out(29999), 10);
        GridEngine z = new GridEngine();
        Engine.table(z, "abcde,b\n" + row + "," + "y".repeat(19) + "\n");
        g = z.grid(4);
        z.axis(491);
        Due.due("29959 bytes", z.write(z.pick(1, z.spread(g))), 8 + 491 * 61);
        z.axis(492);
        big = z.pick(1, z.spread(g));
        Due.due("30020 bytes", z.write(big), -12);
        Due.due("what was written stays", z.out(8 + 491 * 61 - 1), 10);
    }

    private static void limits() {
        GridEngine x = new GridEngine();
        for (int n = 1; n <= 40; n++) {
            Due.due("table " + n, Engine.table(x, "a\n1\n"), n);
        }
        Due.due("table 41", Engine.table(x, "a\n"), -12);
        Due.due("fault before 12", Engine.table(x, "a"), -20);
        Due.due("pick", x.pick(1, Engine.ints(x, 0)), -12);
        Due.due("pick: 2 before 12", x.pick(1, Engine.ints(x, 1)), -2);
        GridEngine y = new GridEngine();
        Engine.table(y, "a\n" + "z".repeat(39) + "\n");
        int g = y.grid(4);
        // 42 bytes are there; each table of 499 rows has 2 + 499 * 40 more.
        for (int n = 2; n <= 4; n++) {
            y.axis(499);
            Due.due("table " + n, y.pick(1, y.spread(g)), n);
        }
        y.axis(141);
        Due.due("65570 bytes", y.pick(1, y.spread(g)), -12);
        y.axis(140);
        Due.due("65530 bytes", y.pick(1, y.spread(g)), 5);
        y.axis(1);
        Due.due("42 bytes more", y.pick(1, y.spread(g)), -12);
        Due.due("8 bytes more", Engine.table(y, "a\n1\n2\n3\n"), -12);
        Due.due("6 bytes more", Engine.table(y, "a\n1\n2\n"), 6);
        Due.due("none more", Engine.table(y, "a\n"), -12);
        GridEngine w = new GridEngine();
        Engine.table(w, "a\n" + "z".repeat(39) + "\n");
        Engine.table(w, "a\n1\n");
        g = w.grid(4);
        for (int rows : new int[] {499, 499, 499, 140}) {
            w.axis(rows);
            Due.due("picked", w.pick(1, w.spread(g)) > 0, true);
        }
        w.axis(0);
        int none = w.grid(4);
        Due.due("65536 bytes", w.pick(2, none), 7);
        Due.due("65538 bytes", w.pick(2, none), -12);
        GridEngine z = new GridEngine();
        Engine.table(z, "a\n1\n");
        while (z.lane(400) < 0) {
            z.column(1, 0);
        }
        Due.due("column: no room", z.column(1, 0), -12);
        Due.due("missing: no room", z.missing(1, 0), -12);
        Due.due("column: 2 before 12", z.column(1, 1), -2);
    }

    private static void refusals() {
        GridEngine x = new GridEngine();
        Engine.table(x, "a\n1\n");
        x.write(1);
        Due.due("rows(0)", x.rows(0), -14);
        Due.due("rows(-1)", x.rows(-1), -14);
        Due.due("rows(2)", x.rows(2), -14);
        Due.due("columnLane(2, 9)", x.columnLane(2, 9), -14);
        Due.due("column(0, 9)", x.column(0, 9), -14);
        Due.due("missing(0, 9)", x.missing(0, 9), -14);
        x.crash(0);
        Due.due("what was written is lost", x.out(0), -1);
        Engine.feed(x, "b\n");
        Due.due("table, closed", x.table(), -13);
        Due.due("rows, closed", x.rows(9), -13);
        Due.due("named, closed", x.named(9), -13);
        Due.due("columnLane, closed", x.columnLane(9, 9), -13);
        Due.due("column, closed", x.column(9, 9), -13);
        Due.due("missing, closed", x.missing(9, 9), -13);
        Due.due("pick, closed", x.pick(9, 9), -13);
        Due.due("write, closed", x.write(9), -13);
        x.reopen();
        Due.due("the tray stayed, numbers go on", x.table(), 2);
        Due.due("table 1 is lost", x.rows(1), -14);
        Due.due("table 2", x.rows(2), 0);
    }

    private static String randomCell() {
        String[] some = {"", "", "1", "-7", "2.5", "true", "false", "x", "yz", " ", " a", "a ", "3000000000", "\"q\"", "\"\"", "\"a,b\"", "\"c\"\"d\"", "-0", "-0.0"};
        return some[RANDOM.nextInt(some.length)];
    }

    /** What a cell means. */
    private static String meaning(String cell) {
        return cell.startsWith("\"") ? cell.substring(1, cell.length() - 1).replace("\"\"", "\"") : cell;
    }

    private static int laneOf(List<String> cells) {
        List<String> there = new ArrayList<>(cells);
        there.removeIf(String::isEmpty);
        if (there.isEmpty()) {
            return 8;
        }
        if (there.stream().allMatch(c -> c.matches("true|false"))) {
            return 0;
        }
        if (there.stream().allMatch(c -> c.matches("-?[0-9]{1,10}") && Long.parseLong(c) == (int) Long.parseLong(c))) {
            return 4;
        }
        if (there.stream().allMatch(c -> c.matches("-?[0-9]{1,18}"))) {
            return 5;
        }
        return there.stream().allMatch(c -> c.matches("-?[0-9]+(\\.[0-9]+)?")) ? 7 : 8;
    }

    private static void randomTable() {
        GridEngine x = new GridEngine();
        int columns = 1 + RANDOM.nextInt(4);
        int rows = RANDOM.nextInt(6);
        boolean plain = RANDOM.nextBoolean();
        List<List<String>> cells = new ArrayList<>();
        StringBuilder text = new StringBuilder();
        for (int c = 0; c < columns; c++) {
            cells.add(new ArrayList<>());
            text.append(c > 0 ? "," : "").append("n").append(c);
        }
        text.append("\n");
        String[] kinds = {"1 2 -3 2147483647", "1.5 2 -0.25", "true false", "5 3000000000", "u v w"};
        for (int r = 0; r < rows; r++) {
            for (int c = 0; c < columns; c++) {
                String[] kind = kinds[(c + columns) % kinds.length].split(" ");
                String cell = plain ? (RANDOM.nextInt(4) == 0 ? "" : kind[RANDOM.nextInt(kind.length)]) : randomCell();
                cells.get(c).add(cell);
                text.append(c > 0 ? "," : "").append(cell);
            }
            text.append("\n");
        }
        int t = Engine.table(x, text.toString());
        Due.due("table <" + text + ">", t, 1);
        Due.due("rows", x.rows(t), rows);
        for (int c = 0; c < columns; c++) {
            List<String> column = cells.get(c);
            int lane = laneOf(column);
            Due.due("lane <" + text + ">", x.columnLane(t, c), lane);
            TreeSet<String> words = new TreeSet<>();
            column.stream().filter(s -> !s.isEmpty()).forEach(s -> words.add(meaning(s)));
            long[] want = new long[rows];
            long[] missing = new long[rows];
            for (int r = 0; r < rows; r++) {
                String cell = column.get(r);
                missing[r] = cell.isEmpty() ? 1 : 0;
                want[r] = cell.isEmpty() ? (lane == 8 ? -1 : 0) : switch (lane) {
                    case 0 -> cell.equals("true") ? 1 : 0;
                    case 4, 5 -> Long.parseLong(cell);
                    case 7 -> Engine.bits(Double.parseDouble(cell));
                    default -> words.headSet(meaning(cell)).size();
                };
            }
            Due.due("column <" + text + ">", Engine.cells(x, x.column(t, c)), want);
            Due.due("missing <" + text + ">", Engine.cells(x, x.missing(t, c)), missing);
        }
        String written = text(x, t);
        int again = Engine.table(x, written);
        Due.due("text of the text", text(x, again), written);
    }
}
