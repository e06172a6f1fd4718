/**
 * Term 6 and promises 38 to 45: the bounds of table texts, names, cells, columns, lines, picked rows and written
 * texts, the places of faults, and what a refusal leaves.
 */
final class TableBoundsTest {
    private TableBoundsTest() {
    }

    public static void main(String[] args) {
        textsAreLinesEndedBy10();
        namesAre1To16();
        namesHave1To20Bytes();
        noTwoNamesAreAlike();
        linesHaveAsManyCells();
        linesAreAtMost500();
        cellsHaveAtMost40Bytes();
        cellsInQuotes();
        bytesThatDoNotBelong();
        theFirstFaultIsTold();
        missingCells();
        booleanColumns();
        intColumnsEndAtTheirBounds();
        longColumnsEndAtTheirBounds();
        doubleColumnsHaveAtMost15Digits();
        mixedColumns();
        textColumns();
        columnsEndAtTheNames();
        tablesAreAtMost40ForLife();
        textsHaveAtMost65536BytesTogether();
        pickTakesRowsThatThereAre();
        pickedRowsAreAtMost499();
        writtenAreAtMost30000Bytes();
        writtenCellsAreInQuotesJustIfTheyWere();
        outEndsWithWhatWasWritten();
        namedTakesTheWholeName();
        manyRowsInANewObject();
        Due.finish();
    }

    private static int taken(String text) {
        GridEngine x = new GridEngine();
        Due.due("table <" + text + ">", Engine.table(x, text), 1);
        Due.due("place()", x.place(), -1);
        return x.rows(1);
    }

    private static void fault(String text, int place) {
        GridEngine x = new GridEngine();
        Engine.table(x, "old\n1\n");
        Refused.due(x, "table <" + text + ">", () -> Engine.table(x, text), -20);
        Due.due("place of <" + text + ">", x.place(), place);
        Due.due("the tray is used up", x.end(1), -1);
        Due.due("the next number", Engine.table(x, "a\n"), 2);
        Due.due("place()", x.place(), -1);
    }

    private static void textsAreLinesEndedBy10() {
        Due.due("names alone", taken("a\n"), 0);
        Due.due("a row", taken("a\n1\n"), 1);
        Due.due("an empty row", taken("a\n\n"), 1);
        fault("", 0);
        fault("a", 1);
        fault("a\n1", 3);
        fault("a\n1\n2", 5);
        fault("a,", 2);
        fault("a,b\n1,", 6);
        fault("a\n\"", 3);
        fault("a\n\"x", 4);
        fault("a\n\"x\"", 5);
        fault("a\n\"x\"\"", 6);
    }

    private static String names(int n) {
        StringBuilder text = new StringBuilder("n1");
        for (int k = 2; k <= n; k++) {
            text.append(",n").append(k);
        }
        return text.toString();
    }

    private static void namesAre1To16() {
        Due.due("one", taken("n\n"), 0);
        Due.due("16", taken(names(16) + "\n"), 0);
        fault(names(17) + "\n", names(16).length() + 1);
        fault(names(16) + ",\n", names(16).length() + 1);
        // One too many is told before it is read.
        fault(names(16) + ",\"", names(16).length() + 1);
        fault(names(16) + ",$\u0001", names(16).length() + 1);
        fault(names(16) + ",", names(16).length() + 1);
        fault("\n", 0);
    }

    private static void namesHave1To20Bytes() {
        String twenty = "abcdefghijabcdefghij";
        Due.due("20 bytes", taken("x," + twenty + "\n"), 0);
        fault("x," + twenty + "k\n", 2);
        Due.due("20 bytes in quotes", taken("\"" + twenty.substring(1) + ",\"\n"), 0);
        Due.due("20 bytes as they mean", taken("\"" + "\"\"".repeat(20) + "\"\n"), 0);
        fault("x,\"" + "\"\"".repeat(21) + "\"\n", 2);
        fault("x,,y\n", 2);
        fault(",x\n", 0);
        fault("x,\n", 2);
        fault("x,\"\"\n", 2);
        Due.due("a blank is a name", taken(" ,  \n"), 0);
        // The end of a name comes before its length.
        fault("x," + twenty + "k\"\n", 2 + 21);
        fault("x," + twenty + "k", 2 + 21);
    }

    private static void noTwoNamesAreAlike() {
        Due.due("unlike ones", taken("a,A,aa, a,a \n"), 0);
        fault("a,b,a\n", 4);
        fault("a,\"a\"\n", 2);
        fault("\"a,\",\"a,\"\n", 5);
        fault("a,a,a\n", 2);
    }

    private static void linesHaveAsManyCells() {
        Due.due("two cells", taken("a,b\n1,2\n,\n"), 2);
        fault("a,b\n1\n", 5);
        fault("a,b\n\n", 4);
        fault("a,b\n1,2,3\n", 8);
        fault("a,b\n1,2,\n", 8);
        fault("a,b\n1,2,\"\n", 8);
        fault("a,b\n1,2,", 8);
        fault("a\n,\n", 3);
        fault("a,b,c\n1,2,3\n4,5\n", 15);
    }

    private static void linesAreAtMost500() {
        Due.due("500 lines", taken("a\n" + "\n".repeat(499)), 499);
        fault("a\n" + "\n".repeat(500), 501);
        fault("a\n" + "\n".repeat(499) + "\u0001", 501);
        fault("a\n" + "\n".repeat(499) + "1", 501);
        fault("a\n" + "\n".repeat(498) + "1", 501);
    }

    private static void cellsHaveAtMost40Bytes() {
        String forty = "abcdefghij".repeat(4);
        Due.due("40 bytes", taken("a,b\n1," + forty + "\n"), 1);
        fault("a,b\n1," + forty + "k\n", 6);
        Due.due("40 bytes in quotes", taken("a\n\"" + forty + "\"\n"), 1);
        fault("a\n\"" + forty + "k\"\n", 2);
        Due.due("40 bytes as they mean", taken("a\n\"" + "\"\"".repeat(40) + "\"\n"), 1);
        fault("a\n\"" + "\"\"".repeat(41) + "\"\n", 2);
        // A cell is read to its end first.
        fault("a\n" + forty + "k\"\n", 2 + 41);
        fault("a\n" + forty + "k", 2 + 41);
        fault("a\n\"" + forty + "k\"x\n", 2 + 43);
        fault("a\n" + forty + "k,\n", 2);
        fault("a,b\n" + forty + "k\n", 4);
    }

    private static void cellsInQuotes() {
        GridEngine x = new GridEngine();
        Engine.table(x, "a\n\"\"\n\"\"\"\"\n\",\"\n\"x\"\"y\"\n");
        Due.due("words", Engine.cells(x, x.column(1, 0)), 0, 1, 2, 3);
        fault("a\nx\"\n", 3);
        fault("a\n \"x\"\n", 3);
        fault("a\n\"x\" \n", 5);
        fault("a\n\"x\"y\n", 5);
        fault("a\n\"\"x\n", 4);
        fault("a\n\"x\n\"\n", 4);
        fault("a\n\"\t\"\n", 3);
        fault("a\n\"\"\"\n", 5);
    }

    private static void bytesThatDoNotBelong() {
        for (int b : new int[] {0, 9, 11, 13, 31, 127, 128, 160, 255}) {
            fault("a" + (char) b + "\n", 1);
            fault("a\n" + (char) b + "\n", 2);
            fault("a\n\"x" + (char) b + "\"\n", 4);
        }
        Due.due("all bytes that do", taken("a\n !#$%&'()*+-./0123456789:;<=>?@\nABCDEFGHIJKLMNOPQRSTUVWXYZ[\\]^_`\nabcdefghijklmnopqrstuvwxyz{|}~\n"), 3);
    }

    private static void theFirstFaultIsTold() {
        fault("a,a\n1\n\u0001", 2);
        fault("a,b\n1\n1,2,3\n", 5);
        fault("a,b\n1,\u0001\n1\n", 6);
        GridEngine x = new GridEngine();
        for (int n = 1; n <= 40; n++) {
            Engine.table(x, "a\n");
        }
        Refused.due(x, "a fault comes before no room", () -> Engine.table(x, "a,a\n"), -20);
        Due.due("place()", x.place(), 2);
        Refused.due(x, "no room", () -> Engine.table(x, "a\n"), -12);
        Due.due("place() of the latest that was not refused otherwise", x.place(), 2);
    }

    private static void missingCells() {
        GridEngine x = new GridEngine();
        Engine.table(x, "a,b\n,\n\"\", \n1,x\n");
        Due.due("missing", Engine.cells(x, x.missing(1, 0)), 1, 0, 0);
        Due.due("missing", Engine.cells(x, x.missing(1, 1)), 1, 0, 0);
        Due.due("the lane", x.lane(x.missing(1, 0)), 0);
        Due.due("no rows", Engine.shape(x, x.missing(Engine.table(x, "a\n"), 0)), "0");
    }

    private static void lane(int want, String... cells) {
        GridEngine x = new GridEngine();
        Due.due("table", Engine.table(x, "a\n" + String.join("\n", cells) + "\n"), 1);
        Due.due("lane of " + String.join(" ", cells), x.columnLane(1, 0), want);
        Due.due("its grid", x.lane(x.column(1, 0)), want == 8 ? 4 : want);
    }

    private static void column(String cell, long bits) {
        GridEngine x = new GridEngine();
        Engine.table(x, "a\n" + cell + "\n");
        Due.due("value of " + cell, x.cell(x.column(1, 0), 0), bits);
    }

    private static void booleanColumns() {
        lane(0, "true");
        lane(0, "false", "");
        lane(8, "true", "1");
        lane(8, "true", "\"true\"");
        lane(8, "True");
        lane(8, " true");
        lane(8, "truefalse");
        lane(8, "");
        lane(8, "", "");
        lane(8, "\"\"");
    }

    private static void intColumnsEndAtTheirBounds() {
        lane(4, "2147483647");
        lane(5, "2147483648");
        lane(4, "-2147483648");
        lane(5, "-2147483649");
        lane(4, "0000000000");
        lane(5, "00000000000");
        lane(4, "-0000000001");
        lane(5, "-00000000001");
        lane(4, "-0", "");
        lane(8, "-");
        lane(8, "--1");
        lane(8, "+1");
        lane(8, "1 ");
        lane(8, "1x");
        lane(8, "0x1");
        lane(8, "\"1\"");
        column("2147483647", 2147483647);
        column("-2147483648", -2147483648L);
        column("-0", 0);
        column("0000000042", 42);
    }

    private static void longColumnsEndAtTheirBounds() {
        lane(5, "9223372036854775807");
        lane(8, "9223372036854775808");
        lane(5, "-9223372036854775808");
        lane(8, "-9223372036854775809");
        lane(5, "0000000000000000000");
        lane(8, "00000000000000000000");
        lane(8, "9999999999999999999");
        lane(5, "1", "99999999999");
        column("9223372036854775807", Long.MAX_VALUE);
        column("-9223372036854775808", Long.MIN_VALUE);
        column("0000000000000000009", 9);
    }

    private static void doubleColumnsHaveAtMost15Digits() {
        lane(7, "0.5");
        lane(7, "12345678901234.5");
        lane(8, "123456789012345.5");
        lane(7, "0.00000000000001");
        lane(8, "0.000000000000001");
        lane(7, "0.5", "123456789012345");
        lane(8, "0.5", "1234567890123456");
        lane(7, "0.5", "-123456789012345");
        lane(7, "-0.0");
        lane(8, "1.");
        lane(8, ".5");
        lane(8, "-.5");
        lane(8, "1.5.5");
        lane(8, "1.-5");
        lane(8, "1e5");
        lane(8, "1.5F");
        String digits = "12345678901234";
        for (int n = 1; n <= 14; n++) {
            String text = "-0." + digits.substring(0, n);
            column(text, Engine.bits(Double.parseDouble(text)));
            String ones = digits.substring(0, 15 - n) + "." + "1".repeat(n);
            column(ones, Engine.bits(Double.parseDouble(ones)));
        }
        column("-0.0", Engine.bits(-0.0));
        column("0.1", Engine.bits(0.1));
        column("99999999999999.9", Engine.bits(99999999999999.9));
        column("-0.00000000000001", Engine.bits(-1e-14));
        GridEngine x = new GridEngine();
        Engine.table(x, "a\n1.5\n\n-7\n");
        Due.due("missing is 0", Engine.cells(x, x.column(1, 0)), Engine.bits(1.5), 0, Engine.bits(-7.0));
    }

    private static void mixedColumns() {
        lane(4, "1", "2", "");
        lane(5, "1", "3000000000", "");
        lane(7, "1", "2.5", "");
        lane(8, "3000000000000000", "2.5");
        lane(8, "1", "x");
        lane(8, "1", "true");
        lane(8, "2.5", "\"\"");
    }

    private static void textColumns() {
        GridEngine x = new GridEngine();
        Engine.table(x, "a\nb\n\na\n\"\"\nB\nab\nb\n~\n!\n");
        Due.due("words by bytes, rising", Engine.cells(x, x.column(1, 0)), 5, -1, 3, 0, 2, 4, 5, 6, 1);
        Engine.table(x, "a\n\n\n");
        Due.due("all missing", Engine.cells(x, x.column(2, 0)), -1, -1);
        Engine.table(x, "a,b\n\"1\",x\n\"01\",\"x\"\n1,x\n");
        Due.due("by what they mean", Engine.cells(x, x.column(3, 0)), 1, 0, 1);
        Due.due("in quotes or not", Engine.cells(x, x.column(3, 1)), 0, 0, 0);
        StringBuilder many = new StringBuilder("a\n");
        for (int n = 0; n < 499; n++) {
            many.append((char) ('a' + n % 26)).append((char) ('a' + n / 26)).append("\n");
        }
        int t = Engine.table(x, many.toString());
        int c = x.column(t, 0);
        Due.due("499 unlike words", x.cell(x.fold(c, 4, 0), 0), 498);
    }

    private static void columnsEndAtTheNames() {
        GridEngine x = new GridEngine();
        Engine.table(x, "a,b\n1,2\n");
        Due.due("columnLane 0", x.columnLane(1, 0), 4);
        Due.due("columnLane 1", x.columnLane(1, 1), 4);
        Due.due("column 1", Engine.cells(x, x.column(1, 1)), 2);
        Due.due("missing 1", Engine.cells(x, x.missing(1, 1)), 0);
        for (int c : new int[] {-1, 2, 16, Integer.MIN_VALUE, Integer.MAX_VALUE}) {
            Refused.due(x, "columnLane " + c, () -> x.columnLane(1, c), -2);
            Refused.due(x, "column " + c, () -> x.column(1, c), -2);
            Refused.due(x, "missing " + c, () -> x.missing(1, c), -2);
        }
        for (int t : new int[] {-1, 0, 2, 40, 41, Integer.MIN_VALUE, Integer.MAX_VALUE}) {
            Refused.due(x, "rows of " + t, () -> x.rows(t), -14);
            Refused.due(x, "columnLane of " + t, () -> x.columnLane(t, 0), -14);
            Refused.due(x, "column of " + t, () -> x.column(t, 99), -14);
            Refused.due(x, "missing of " + t, () -> x.missing(t, 0), -14);
            Refused.due(x, "write of " + t, () -> x.write(t), -14);
            Refused.due(x, "pick of " + t, () -> x.pick(t, 1), -14);
            Refused.due(x, "named of " + t, () -> Engine.named(x, t, "a"), -14);
        }
    }

    private static void tablesAreAtMost40ForLife() {
        GridEngine x = new GridEngine();
        for (int n = 1; n <= 38; n++) {
            Due.due("table " + n, Engine.table(x, "a\n1\n"), n);
        }
        x.crash(0);
        x.reopen();
        Due.due("lost", x.rows(38), -14);
        Due.due("those lost count", Engine.table(x, "a\n1\n"), 39);
        int g = Engine.ints(x, 0);
        Due.due("a picked one counts", x.pick(39, g), 40);
        Refused.due(x, "the 41st", () -> Engine.table(x, "a\n1\n"), -12);
        Refused.due(x, "the 41st, picked", () -> x.pick(39, g), -12);
        Due.due("the 40th is there", x.rows(40), 1);
        int beyond = Engine.ints(x, 1);
        Refused.due(x, "2 before 12", () -> x.pick(39, beyond), -2);
    }

    private static int zeros(GridEngine x, int one, int n) {
        x.axis(n);
        return x.spread(one);
    }

    private static void textsHaveAtMost65536BytesTogether() {
        GridEngine x = new GridEngine();
        Engine.table(x, "a\n" + "z".repeat(39) + "\n");
        int one = x.grid(4);
        // 42 bytes; 2 + 40 * 499 three times; 2 + 40 * 140; so 65530 in all.
        for (int rows : new int[] {499, 499, 499, 140}) {
            Due.due("rows", x.rows(x.pick(1, zeros(x, one, rows))), rows);
        }
        int single = zeros(x, one, 1);
        Refused.due(x, "42 bytes more", () -> x.pick(1, single), -12);
        Refused.due(x, "7 bytes more", () -> Engine.table(x, "a\n1234\n"), -12);
        Due.due("what was refused takes none: 6 bytes more", Engine.table(x, "a\n123\n"), 6);
        Refused.due(x, "2 bytes more", () -> Engine.table(x, "a\n"), -12);
        x.crash(0);
        x.reopen();
        Refused.due(x, "those lost count", () -> Engine.table(x, "a\n"), -12);
    }

    private static void pickTakesRowsThatThereAre() {
        GridEngine x = new GridEngine();
        Engine.table(x, "a,b\n1,x\n2.5,y\ntrue,\n");
        Due.due("the first and the last", x.rows(x.pick(1, Engine.ints(x, 0, 2, 2, 0))), 4);
        Due.due("none", x.rows(x.pick(1, Engine.grid(x, 4, new int[] {0}))), 0);
        for (int row : new int[] {-1, 3, Integer.MIN_VALUE, Integer.MAX_VALUE}) {
            int g = Engine.ints(x, 0, row);
            Refused.due(x, "row " + row, () -> x.pick(1, g), -2);
        }
        for (int lane = 0; lane < 8; lane++) {
            if (lane != 4) {
                int g = Engine.row(x, lane, 0);
                Refused.due(x, "lane " + lane, () -> x.pick(1, g), -1);
            }
        }
        int none = x.grid(4);
        int two = Engine.grid(x, 4, new int[] {1, 1});
        Refused.due(x, "no axes", () -> x.pick(1, none), -1);
        Refused.due(x, "two axes", () -> x.pick(1, two), -1);
        Refused.due(x, "no grid", () -> x.pick(1, 999), -14);
        Due.due("lanes are guessed anew", x.columnLane(x.pick(1, Engine.ints(x, 0, 0)), 0), 4);
        Due.due("and again", x.columnLane(x.pick(1, Engine.ints(x, 2)), 0), 0);
        Due.due("all missing", x.columnLane(x.pick(1, Engine.ints(x, 2)), 1), 8);
        Due.due("no rows", x.columnLane(x.pick(1, Engine.grid(x, 4, new int[] {0})), 0), 8);
    }

    private static void pickedRowsAreAtMost499() {
        GridEngine x = new GridEngine();
        Engine.table(x, "a\n1\n");
        int one = x.grid(4);
        int most = zeros(x, one, 499);
        int more = zeros(x, one, 500);
        Due.due("499 rows", x.rows(x.pick(1, most)), 499);
        Refused.due(x, "500 rows", () -> x.pick(1, more), -12);
        int other = Engine.ints(x, 1);
        int wrong = zeros(x, other, 500);
        Refused.due(x, "2 before 12", () -> x.pick(1, wrong), -2);
    }

    private static void writtenAreAtMost30000Bytes() {
        GridEngine x = new GridEngine();
        // Names of 60 bytes with their ends, rows of 60 bytes: 500 lines have 30000.
        String names = "a".repeat(20) + "," + "b".repeat(20) + "," + "c".repeat(17) + "\n";
        String row = "x".repeat(40) + "," + "y".repeat(10) + "," + "z".repeat(7) + "\n";
        Engine.table(x, names + row);
        int one = x.grid(4);
        int most = x.pick(1, zeros(x, one, 499));
        Due.due("30000 bytes", x.write(most), 30000);
        Due.due("the last one", x.out(29999), 10);
        Due.due("none behind it", x.out(30000), -1);
        GridEngine y = new GridEngine();
        Engine.table(y, names.replace("c\n", "cc\n") + row);
        int single = y.grid(4);
        int t = y.pick(1, zeros(y, single, 499));
        Due.due("121 bytes", y.write(1), 121);
        Refused.due(y, "30001 bytes", () -> y.write(t), -12);
        Due.due("what was written last stays", y.out(120), 10);
        Due.due("and its end", y.out(121), -1);
    }

    private static void writtenCellsAreInQuotesJustIfTheyWere() {
        String[][] cases = {
            {"a\nx\n", "a\nx\n"}, {"a\n\"x\"\n", "a\n\"x\"\n"}, {"a\n x\n", "a\n\" x\"\n"}, {"a\nx \n", "a\n\"x \"\n"}, {"a\n \n", "a\n\" \"\n"},
            {"a\n\"\"\n", "a\n\"\"\n"}, {"a\n\n", "a\n\n"}, {"a\n\"\"\"\"\n", "a\n\"\"\"\"\n"}, {"a\n\",\"\n", "a\n\",\"\n"}, {"a\nx y\n", "a\nx y\n"},
            {"\"a\"\n", "a\n"}, {"\"a,\"\n", "\"a,\"\n"}, {"\"a\"\"\"\n", "\"a\"\"\"\n"}, {" a\n", "\" a\"\n"}, {"\"a \"\n", "\"a \"\n"}, {"\"a b\"\n", "a b\n"}
        };
        for (String[] c : cases) {
            GridEngine x = new GridEngine();
            Engine.table(x, c[0]);
            Due.due("text of <" + c[0] + ">", Engine.writtenText(x, x.write(1)), c[1]);
            if (x.rows(1) > 0) {
                int p = x.pick(1, Engine.ints(x, 0));
                Due.due("text of what was picked", Engine.writtenText(x, x.write(p)), c[1]);
            }
        }
    }

    private static void outEndsWithWhatWasWritten() {
        GridEngine x = new GridEngine();
        Due.due("nothing was written", x.out(0), -1);
        Engine.table(x, "ab\n");
        Due.due("write", x.write(1), 3);
        Due.due("out(-1)", x.out(-1), -1);
        Due.due("out(0)", x.out(0), 'a');
        Due.due("out(2)", x.out(2), 10);
        Due.due("out(3)", x.out(3), -1);
        Due.due("out(MAX)", x.out(Integer.MAX_VALUE), -1);
        Due.due("out(MIN)", x.out(Integer.MIN_VALUE), -1);
        Due.due("a shorter one", x.bytes(x.grid(0)), 9);
        Due.due("out(8)", x.out(8) >= 0, true);
        x.write(1);
        Due.due("what was longer is gone", x.out(3), -1);
    }

    private static void manyRowsInANewObject() {
        for (int rows : new int[] {255, 256, 257, 499}) {
            GridEngine x = new GridEngine();
            Engine.table(x, "a\n" + "7\n".repeat(rows));
            Due.due("missing", x.cells(x.missing(1, 0)), rows);
            GridEngine y = new GridEngine();
            Engine.table(y, "a\n" + "7\n".repeat(rows));
            Due.due("column", y.cells(y.column(1, 0)), rows);
            Due.due("write", y.write(1), 2 + 2 * rows);
        }
    }

    private static void namedTakesTheWholeName() {
        GridEngine x = new GridEngine();
        Engine.table(x, "a,ab,\" c\",\"\"\"\"\n");
        Due.due("a", Engine.named(x, 1, "a"), 0);
        Due.due("ab", Engine.named(x, 1, "ab"), 1);
        Due.due(" c", Engine.named(x, 1, " c"), 2);
        Due.due("\"", Engine.named(x, 1, "\""), 3);
        for (String none : new String[] {"", "abc", "b", "c", "A", "a ", "\"\"\"\""}) {
            Due.due("<" + none + ">", Engine.named(x, 1, none), -14);
            Due.due("the tray is used up", x.end(1), -1);
        }
    }
}
