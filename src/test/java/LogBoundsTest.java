import java.util.zip.CRC32;

/**
 * Term 7 and promises 46 to 54: the bounds of written bytes, names, records and the log, the places of faults in
 * bytes, what a crash takes away and what it leaves, and how often a log is opened.
 */
final class LogBoundsTest {
    private LogBoundsTest() {
    }

    public static void main(String[] args) {
        bytesAreAtMost30000();
        bytesOfEachLane();
        fewerThan8BytesAreAFault();
        theCheckIsLookedAtFirst();
        thenFromTheLeft();
        sizesEndAt4096();
        cellsThatAreCutOff();
        cellsThatAreNone();
        spareBytes();
        noRoomBehindAllFaults();
        namesHave1To20Bytes();
        namesHaveBytes33To126();
        keptGridsHaveAtMost30000Bytes();
        theLogHasAtMost60000Bytes();
        aLaterRecordTakesThePlace();
        openNeedsRoom();
        crashLeavesTheFirstBytesOfTheLastRecord();
        crashTakesAllAway();
        crashLeavesTrayAndCounts();
        whileClosed();
        pokeTakesWhatThereIs();
        openingCutsOffWhatWasSpoilt();
        openedAtMost10Times();
        Due.finish();
    }

    private static int grid(GridEngine x, int lane, int... sizes) {
        for (int s : sizes) {
            x.axis(s);
        }
        return x.grid(lane);
    }

    private static void bytesAreAtMost30000() {
        GridEngine x = new GridEngine();
        int most = grid(x, 1, 12, 2499);
        Due.due("30000 bytes", x.bytes(most), 8 + 4 + 12 * 2499);
        Due.due("the last one", x.out(29999) >= 0, true);
        Due.due("none behind it", x.out(30000), -1);
        int more = grid(x, 1, 157, 191, 1);
        Due.due("30001 bytes", 8 + 6 + x.cells(more), 30001);
        Refused.due(x, "30001 bytes", () -> x.bytes(more), -12);
        int wide = grid(x, 5, 3749);
        int wider = grid(x, 5, 3750);
        Due.due("longs: 30002 bytes", 8 + 2 + 8 * 3749, 30002);
        Refused.due(x, "longs: 30002 bytes", () -> x.bytes(wide), -12);
        Refused.due(x, "longs: 30010 bytes", () -> x.bytes(wider), -12);
        Due.due("longs: 29994 bytes", x.bytes(Engine.view(x, wide, ":3748")), 29994);
        int one = x.grid(0);
        x.axis(250);
        x.axis(400);
        int spread = x.spread(one);
        Refused.due(x, "a spread view of 100000 cells", () -> x.bytes(spread), -12);
        Due.due("no cells", x.bytes(grid(x, 7, 0, 4096, 4096, 4096)), 8 + 8);
        Refused.due(x, "no grid", () -> x.bytes(99), -14);
    }

    private static byte[] checked(int... body) {
        byte[] bytes = new byte[body.length + 4];
        for (int k = 0; k < body.length; k++) {
            bytes[k] = (byte) body[k];
        }
        CRC32 crc = new CRC32();
        crc.update(bytes, 0, body.length);
        for (int k = 0; k < 4; k++) {
            bytes[body.length + k] = (byte) (crc.getValue() >> (24 - 8 * k));
        }
        return bytes;
    }

    private static void bytesOf(int lane, long bits, int... cell) {
        GridEngine x = new GridEngine();
        int g = x.grid(lane);
        x.put(g, lane, bits);
        int[] body = new int[4 + cell.length];
        body[0] = 71;
        body[1] = 82;
        body[2] = lane;
        System.arraycopy(cell, 0, body, 4, cell.length);
        byte[] want = checked(body);
        Due.due("bytes of lane " + lane, x.bytes(g), want.length);
        for (int k = 0; k < want.length; k++) {
            Due.due("byte " + k + " of lane " + lane, x.out(k), want[k] & 255);
        }
        Engine.feed(x, want);
        int h = x.read();
        Due.due("read", x.lane(h), lane);
        Due.due("read", x.cell(h, 0), bits);
    }

    private static void bytesOfEachLane() {
        bytesOf(0, 1, 1);
        bytesOf(0, 0, 0);
        bytesOf(1, -128, 128);
        bytesOf(1, 127, 127);
        bytesOf(2, -2, 255, 254);
        bytesOf(3, 65534, 255, 254);
        bytesOf(4, Integer.MIN_VALUE, 128, 0, 0, 0);
        bytesOf(4, 0x01020304, 1, 2, 3, 4);
        bytesOf(5, Long.MIN_VALUE, 128, 0, 0, 0, 0, 0, 0, 0);
        bytesOf(5, 0x0102030405060708L, 1, 2, 3, 4, 5, 6, 7, 8);
        bytesOf(6, Engine.bits(-0f), 128, 0, 0, 0);
        bytesOf(6, Engine.bits(Float.NEGATIVE_INFINITY), 255, 128, 0, 0);
        bytesOf(7, Engine.bits(Double.POSITIVE_INFINITY), 127, 240, 0, 0, 0, 0, 0, 0);
        bytesOf(7, Engine.bits(-0.0), 128, 0, 0, 0, 0, 0, 0, 0);
    }

    private static void fault(int place, byte[] bytes) {
        GridEngine x = new GridEngine();
        x.grid(4);
        Refused.due(x, "read", () -> {
            Engine.feed(x, bytes);
            return x.read();
        }, -20);
        Due.due("place of " + java.util.Arrays.toString(bytes), x.place(), place);
        Due.due("the tray is used up", x.end(1), -1);
        Engine.feed(x, checked(71, 82, 0, 0, 1));
        Due.due("the next number", x.read(), 2);
        Due.due("place()", x.place(), -1);
    }

    private static byte[] raw(int... body) {
        byte[] bytes = new byte[body.length];
        for (int k = 0; k < body.length; k++) {
            bytes[k] = (byte) body[k];
        }
        return bytes;
    }

    private static void fewerThan8BytesAreAFault() {
        fault(0, raw());
        fault(0, raw(71));
        fault(0, raw(71, 82, 0, 0));
        fault(1, raw(71, 82, 0, 0, 1));
        fault(3, raw(71, 82, 0, 0, 1, 2, 3));
        // Seven bytes whose check is right are too few all the same.
        fault(3, checked(71, 82, 0));
        fault(0, checked());
        // Eight are not: four more are due for the cell.
        fault(4, checked(71, 82, 4, 0));
        GridEngine x = new GridEngine();
        x.read();
        Due.due("place()", x.place(), 0);
        Engine.feed(x, checked(71, 82, 4, 1, 0, 0));
        Due.due("no cells: 10 bytes", x.read(), 1);
        Due.due("place()", x.place(), -1);
    }

    private static void theCheckIsLookedAtFirst() {
        byte[] wrong = checked(70, 81, 9, 9, 9);
        wrong[8] ^= 1;
        fault(5, wrong);
        byte[] spoilt = checked(71, 82, 0, 0, 1);
        spoilt[0] ^= 1;
        fault(5, spoilt);
        for (int k = 0; k < 9; k++) {
            byte[] one = checked(71, 82, 0, 0, 1);
            one[k] ^= (byte) 128;
            fault(5, one);
        }
        fault(4, raw(71, 82, 0, 0, 0, 0, 0, 0));
    }

    private static void thenFromTheLeft() {
        fault(0, checked(70, 81, 8, 5));
        fault(0, checked(0, 82, 0, 0, 1));
        fault(1, checked(71, 81, 8, 5));
        fault(2, checked(71, 82, 8, 5));
        fault(2, checked(71, 82, 255, 5));
        fault(3, checked(71, 82, 7, 5));
        fault(3, checked(71, 82, 0, 255));
        fault(3, checked(71, 82, 4, 255, 0, 0));
        fault(3, checked(71, 82, 4, 254, 0, 0));
        fault(3, checked(71, 82, 5, 254, 0, 0, 0, 0, 0, 0, 0, 0));
        GridEngine x = new GridEngine();
        Engine.feed(x, checked(71, 82, 7, 4, 0, 0, 0, 1, 0, 2, 16, 0));
        Due.due("lane 7, four axes", Engine.shape(x, x.read()), "0x1x2x4096");
    }

    private static void sizesEndAt4096() {
        GridEngine x = new GridEngine();
        Engine.feed(x, checked(71, 82, 0, 2, 16, 0, 0, 0));
        Due.due("4096", Engine.shape(x, x.read()), "4096x0");
        fault(4, checked(71, 82, 0, 2, 16, 1, 0, 0));
        fault(6, checked(71, 82, 0, 2, 0, 0, 16, 1));
        fault(4, checked(71, 82, 0, 1, 255, 255));
        fault(4, checked(71, 82, 0, 1, 128, 0));
        fault(4, checked(71, 82, 0, 1));
        fault(4, checked(71, 82, 0, 1, 0));
        fault(6, checked(71, 82, 0, 2, 0, 1));
        fault(6, checked(71, 82, 0, 2, 0, 1, 16));
        // The sizes one by one, before any cell.
        fault(4, checked(71, 82, 0, 2, 16, 1, 16));
        fault(10, checked(71, 82, 0, 4, 0, 1, 0, 1, 0, 1, 99, 0, 7));
    }

    private static void cellsThatAreCutOff() {
        int[] width = {1, 1, 2, 2, 4, 8, 4, 8};
        for (int lane = 0; lane < 8; lane++) {
            for (int many = 0; many < 2 * width[lane]; many++) {
                int[] body = new int[6 + many];
                System.arraycopy(new int[] {71, 82, lane, 1, 0, 2}, 0, body, 0, 6);
                fault(6 + many / width[lane] * width[lane], checked(body));
            }
        }
        fault(12, checked(71, 82, 4, 4, 16, 0, 16, 0, 16, 0, 16, 0, 1, 2, 3));
        fault(12, checked(71, 82, 1, 4, 16, 0, 16, 0, 16, 0, 16, 0));
    }

    private static void cellsThatAreNone() {
        fault(4, checked(71, 82, 0, 0, 2));
        fault(4, checked(71, 82, 0, 0, 255));
        fault(7, checked(71, 82, 0, 1, 0, 3, 1, 2, 2));
        fault(4, checked(71, 82, 6, 0, 127, 128, 0, 1));
        fault(4, checked(71, 82, 6, 0, 255, 255, 255, 255));
        fault(4, checked(71, 82, 7, 0, 127, 240, 0, 0, 0, 0, 0, 1));
        fault(14, checked(71, 82, 7, 1, 0, 2, 0, 0, 0, 0, 0, 0, 0, 0, 255, 248, 0, 0, 0, 0, 0, 0));
        // A cell that is none comes before one that is cut off behind it.
        fault(6, checked(71, 82, 0, 1, 0, 2, 7));
    }

    private static void spareBytes() {
        fault(5, checked(71, 82, 0, 0, 1, 0));
        fault(8, checked(71, 82, 4, 0, 1, 2, 3, 4, 5));
        fault(6, checked(71, 82, 4, 1, 0, 0, 9));
        fault(8, checked(71, 82, 4, 0, 1, 2, 3, 4, 1, 2, 3, 4));
        fault(4, checked(71, 82, 0, 0, 9, 9));
    }

    private static void noRoomBehindAllFaults() {
        GridEngine x = new GridEngine();
        for (int n = 0; n < 399; n++) {
            x.grid(0);
        }
        Engine.feed(x, checked(71, 82, 0, 0, 1));
        Due.due("the last one", x.read(), 400);
        Refused.due(x, "no room", () -> {
            Engine.feed(x, checked(71, 82, 0, 0, 1));
            return x.read();
        }, -12);
        Due.due("the tray is used up", x.end(1), -1);
        Due.due("place()", x.place(), -1);
        Refused.due(x, "a fault", () -> {
            Engine.feed(x, checked(71, 82, 0, 0, 1, 0));
            return x.read();
        }, -20);
        Due.due("place()", x.place(), 5);
        GridEngine y = new GridEngine();
        grid(y, 1, 41, 2439);
        Refused.due(y, "two cells where one is left", () -> {
            Engine.feed(y, checked(71, 82, 1, 1, 0, 2, 7, 7));
            return y.read();
        }, -12);
        Engine.feed(y, checked(71, 82, 1, 1, 0, 1, 7));
        Due.due("one cell", y.read(), 2);
    }

    private static void namesHave1To20Bytes() {
        GridEngine x = new GridEngine();
        int g = x.grid(0);
        Refused.due(x, "no name", () -> Engine.keep(x, g, ""), -1);
        Due.due("one byte", Engine.keep(x, g, "a"), 4 + 1 + 1 + 9 + 8);
        Due.due("20 bytes", Engine.keep(x, g, "a".repeat(20)), 23 + 42);
        Refused.due(x, "21 bytes", () -> Engine.keep(x, g, "a".repeat(21)), -1);
        Refused.due(x, "300 bytes", () -> Engine.keep(x, g, "a".repeat(300)), -1);
        Due.due("the tray is used up", x.end(1), -1);
        Refused.due(x, "14 before 1", () -> Engine.keep(x, 99, ""), -14);
        Due.due("open one byte", Engine.open(x, "a"), 2);
        Due.due("open 20 bytes", Engine.open(x, "a".repeat(20)), 3);
        Refused.due(x, "open 19 bytes", () -> Engine.open(x, "a".repeat(19)), -14);
        Refused.due(x, "open 21 bytes", () -> Engine.open(x, "a".repeat(21)), -14);
        Refused.due(x, "open 277 bytes", () -> Engine.open(x, "a".repeat(256 + 20)), -14);
        Refused.due(x, "open nothing", () -> Engine.open(x, ""), -14);
        Due.due("the tray is used up", x.end(1), -1);
    }

    private static void namesHaveBytes33To126() {
        GridEngine x = new GridEngine();
        int g = x.grid(0);
        for (int b = 0; b < 256; b++) {
            String name = "a" + (char) b;
            int before = x.logged();
            boolean fine = b >= 33 && b <= 126;
            Due.due("a name with byte " + b, Engine.keep(x, g, name), fine ? before + 24 : -1);
            Due.due("logged", x.logged(), fine ? before + 24 : before);
        }
        Due.due("a blank before", Engine.keep(x, g, " a"), -1);
    }

    private static void keptGridsHaveAtMost30000Bytes() {
        GridEngine x = new GridEngine();
        int most = grid(x, 1, 12, 2499);
        int more = grid(x, 1, 157, 191, 1);
        Due.due("30000 bytes", Engine.keep(x, most, "a"), 30014);
        Refused.due(x, "30001 bytes", () -> Engine.keep(x, more, "b"), -12);
        Refused.due(x, "no name comes before", () -> Engine.keep(x, more, "b b"), -1);
        Due.due("logged", x.logged(), 30014);
    }

    private static void theLogHasAtMost60000Bytes() {
        GridEngine x = new GridEngine();
        int a = grid(x, 1, 12, 2499);
        int b = grid(x, 1, 2, 4096);
        Due.due("30014", Engine.keep(x, a, "a"), 30014);
        // 8204 bytes and 14 more, three times.
        for (int n = 1; n <= 3; n++) {
            Due.due("records", Engine.keep(x, b, "b"), 30014 + n * 8218);
        }
        int left = 60000 - x.logged();
        Due.due("left", left, 5332);
        int fits = grid(x, 1, 2, 2653);
        Due.due("its record", 14 + 12 + x.cells(fits), left);
        Due.due("60000 bytes", Engine.keep(x, fits, "c"), 60000);
        int single = x.grid(0);
        Refused.due(x, "one more", () -> Engine.keep(x, single, "d"), -12);
        Due.due("a taken name needs room, too", Engine.keep(x, single, "c"), -12);
        x.crash(60000);
        Due.due("names", x.reopen(), 3);
        Due.due("logged", x.logged(), 60000);
        GridEngine y = new GridEngine();
        int c = grid(y, 1, 12, 2499);
        int d = grid(y, 1, 2, 4096);
        Engine.keep(y, c, "a");
        for (int n = 1; n <= 3; n++) {
            Engine.keep(y, d, "b");
        }
        int same = grid(y, 1, 2, 2653);
        Refused.due(y, "60001 bytes", () -> Engine.keep(y, same, "cc"), -12);
        Due.due("60000 bytes", Engine.keep(y, same, "c"), 60000);
    }

    private static void aLaterRecordTakesThePlace() {
        GridEngine x = new GridEngine();
        Engine.keep(x, Engine.ints(x, 1), "a");
        Engine.keep(x, Engine.ints(x, 2), "b");
        Due.due("a", Engine.cells(x, Engine.open(x, "a")), 1);
        Engine.keep(x, Engine.row(x, 7, Engine.bits(0.5)), "a");
        Due.due("a, later", Engine.cells(x, Engine.open(x, "a")), Engine.bits(0.5));
        Due.due("b", Engine.cells(x, Engine.open(x, "b")), 2);
        int first = Engine.open(x, "b");
        int second = Engine.open(x, "b");
        Due.due("each has its own cells", x.shares(first, second), 0);
        x.at(0);
        x.put(1, 4, 99);
        x.at(0);
        x.put(first, 4, 98);
        Due.due("what is written later is not kept", Engine.cells(x, Engine.open(x, "b")), 2);
        x.crash(99);
        Due.due("two names in three records", x.reopen(), 2);
    }

    private static void openNeedsRoom() {
        GridEngine x = new GridEngine();
        int g = Engine.ints(x, 1, 2);
        Engine.keep(x, g, "a");
        while (x.lane(399) < 0) {
            x.turned(g, 0, 0);
        }
        Due.due("the last one", Engine.open(x, "a"), 400);
        Refused.due(x, "no room", () -> Engine.open(x, "a"), -12);
        Refused.due(x, "14 before 12", () -> Engine.open(x, "b"), -14);
        Due.due("keeping needs none", Engine.keep(x, g, "b") > 0, true);
    }

    private static void crashLeavesTheFirstBytesOfTheLastRecord() {
        for (int n : new int[] {0, 1, 4, 5, 27, 28, 29, Integer.MAX_VALUE}) {
            GridEngine x = new GridEngine();
            int g = Engine.ints(x, 7);
            Engine.keep(x, g, "a");
            Due.due("28 bytes a record", Engine.keep(x, g, "b"), 56);
            Due.due("crash", x.crash(n), true);
            Due.due("logged", x.logged(), 28 + Math.min(n, 28));
            Due.due("names", x.reopen(), n >= 28 ? 2 : 1);
            Due.due("logged", x.logged(), n >= 28 ? 56 : 28);
            Due.due("a", Engine.cells(x, Engine.open(x, "a")), 7);
            Due.due("b", Math.min(0, Engine.open(x, "b")), n >= 28 ? 0 : -14);
        }
        GridEngine x = new GridEngine();
        Engine.keep(x, x.grid(0), "a");
        for (int n : new int[] {-1, Integer.MIN_VALUE}) {
            Due.due("crash(" + n + ")", x.crash(n), false);
        }
        Due.due("nothing has happened", x.logged(), 23);
        Due.due("it is open", x.reopen(), -13);
        Due.due("the grid is there", x.lane(1), 0);
        GridEngine y = new GridEngine();
        for (int n = 5; n >= 0; n -= 5) {
            Due.due("crash without records", y.crash(n), true);
            Due.due("logged", y.logged(), 0);
            Due.due("reopen", y.reopen(), 0);
            Due.due("logged", y.logged(), 0);
        }
        int g = Engine.ints(y, 1);
        Engine.keep(y, g, "a");
        Engine.keep(y, g, "b");
        y.crash(3);
        y.reopen();
        y.crash(0);
        Due.due("the one before is the last one now", y.logged(), 0);
    }

    private static void crashTakesAllAway() {
        GridEngine x = new GridEngine();
        int g = Engine.ints(x, Integer.MAX_VALUE, 1);
        Engine.table(x, "a\n1\n");
        Engine.functions(x, "int f(int x) = x;");
        x.bind(0, g);
        Engine.formula(x, "a + 1");
        x.bytes(g);
        x.running(g, 1, 0);
        Engine.view(x, g, "$");
        x.cell(g, 9);
        x.axis(1);
        x.axis(2);
        x.at(1);
        Due.due("before: code()", x.code(), 2);
        Due.due("before: place()", x.place(), 0);
        Due.due("before: failed(0)", x.failed(0), 1);
        Due.due("before: steps()", x.steps(), 2);
        Due.due("before: out(0)", x.out(0), 71);
        x.crash(0);
        for (int round = 0; round < 2; round++) {
            Due.due("code()", x.code(), 0);
            Due.due("place()", x.place(), -1);
            Due.due("failed(0)", x.failed(0), -1);
            Due.due("steps()", x.steps(), 0);
            Due.due("out(0)", x.out(0), -1);
            if (round == 0) {
                Due.due("reopen()", x.reopen(), 0);
            }
        }
        Due.due("sizes", x.axis(3), 1);
        Due.due("indexes", x.at(0), 1);
        Due.due("grids", x.lane(g), -14);
        Due.due("views", x.lane(2), -14);
        Due.due("tables", x.rows(1), -14);
        Due.due("functions", Engine.functions(x, ""), 0);
        Due.due("bindings", Engine.formula(x, "a"), -22);
        Due.due("the next grid's number", Engine.shape(x, x.grid(0)), "3");
        Due.due("is three", x.lane(3), 0);
        Due.due("the next table's number", Engine.table(x, "b\n"), 2);
        Due.due("the function can be told anew", Engine.functions(x, "int f(int x) = x;"), 1);
    }

    private static void crashLeavesTrayAndCounts() {
        GridEngine x = new GridEngine();
        x.grid(4);
        Engine.keep(x, 1, "a");
        x.feed(0x61626364, 0x65000000, 0, 0, 0);
        x.end(5);
        x.crash(99);
        Due.due("the tray stays", x.end(6), -1);
        Due.due("the tray stays", x.end(5), 5);
        Due.due("feed goes on behind it", x.feed(0, 0, 0, 0, 0), 25);
        Due.due("end goes on", x.end(1), 1);
        Due.due("a call that is refused with 13 leaves it", x.open(), -13);
        x.reopen();
        Due.due("it is the name a", x.open(), 2);
        Due.due("now it is used up", x.end(1), -1);
    }

    private static void whileClosed() {
        GridEngine x = new GridEngine();
        int g = Engine.ints(x, 1);
        Engine.table(x, "a\n1\n");
        Engine.keep(x, g, "a");
        x.crash(99);
        x.feed(0x61000000, 0, 0, 0, 0);
        x.end(1);
        int[] answers = {
            x.put(g, 4, 1), x.put(-1, 99, 1), x.lane(g), x.lane(-1), x.axes(g), x.size(g, 9), x.cells(g), x.view(g), x.view(-1), x.turned(g, 9, 9),
            x.spread(-1), x.shaped(-1), x.shares(-1, g), x.copy(-1, -1), x.cast(-1, 99, 99), x.functions(), x.bind(99, -1), x.formula(), x.choose(),
            x.fold(-1, 99, -9), x.running(-1, 99, -9), x.sorted(-1, true), x.search(-1, 0), x.groups(-1, -1, 99), x.join(-1, -1), x.product(-1, -1),
            x.solve(-1, -1), x.residues(-1, 4, true), x.table(), x.rows(-1), x.named(-1), x.columnLane(-1, -1), x.column(-1, -1), x.missing(-1, -1),
            x.pick(-1, -1), x.write(-1), x.bytes(-1), x.read(), x.keep(-1), x.open(), x.grid(-1)
        };
        for (int k = 0; k < answers.length; k++) {
            Due.due("closed: call " + k, answers[k], -13);
        }
        Due.due("get", x.get(-1), 0);
        Due.due("code()", x.code(), 13);
        Due.due("cell", x.cell(g, 0), 0);
        Due.due("code()", x.code(), 13);
        Due.due("crash", x.crash(0), false);
        Due.due("the tray is as it was", x.end(2), -1);
        Due.due("place()", x.place(), -1);
        Due.due("failed(0)", x.failed(0), -1);
        Due.due("steps()", x.steps(), 0);
        Due.due("logged()", x.logged(), 28);
        // Sizes and indexes are used up by the calls that need them.
        x.axis(1);
        x.grid(4);
        Due.due("grid", x.axis(1), 1);
        x.spread(1);
        Due.due("spread", x.axis(1), 1);
        x.shaped(1);
        Due.due("shaped", x.axis(1), 1);
        x.choose();
        Due.due("choose", x.axis(1), 1);
        x.at(0);
        x.put(1, 4, 1);
        Due.due("put", x.at(0), 1);
        x.get(1);
        Due.due("get", x.at(0), 1);
        Due.due("others use up none", x.lane(1) + x.turned(1, 0, 0), -26);
        Due.due("axis", x.axis(2), 2);
        Due.due("at", x.at(2), 2);
        Due.due("reopen", x.reopen(), 1);
        Due.due("what was collected while it was closed is there", Engine.shape(x, x.grid(4)), "1x2");
        Due.due("the tray, too", x.open(), 3);
    }

    private static void pokeTakesWhatThereIs() {
        GridEngine x = new GridEngine();
        Due.due("poke, open and without records", x.poke(0, 1), false);
        Engine.keep(x, x.grid(0), "a");
        Due.due("poke, open", x.poke(0, 1), false);
        x.crash(23);
        Due.due("poke(-1)", x.poke(-1, 1), false);
        Due.due("poke(23)", x.poke(23, 1), false);
        Due.due("poke(MIN)", x.poke(Integer.MIN_VALUE, 1), false);
        Due.due("poke(MAX)", x.poke(Integer.MAX_VALUE, 1), false);
        Due.due("poke(22)", x.poke(22, 1), true);
        Due.due("poke(22) back", x.poke(22, 257), true);
        Due.due("poke(0) by nothing", x.poke(0, 0), true);
        Due.due("poke(0) by 256", x.poke(0, 256), true);
        Due.due("poke(0) by -256", x.poke(0, -256), true);
        Due.due("logged", x.logged(), 23);
        Due.due("reopen: it is as it was written", x.reopen(), 1);
        x.crash(7);
        Due.due("poke(6) of what was left", x.poke(6, 1), true);
        Due.due("poke(7) of what is gone", x.poke(7, 1), false);
        Due.due("reopen", x.reopen(), 0);
        x.crash(0);
        Due.due("poke(0) of none", x.poke(0, 1), false);
    }

    private static void openingCutsOffWhatWasSpoilt() {
        for (int i = 0; i < 69; i++) {
            GridEngine x = new GridEngine();
            int g = x.grid(0);
            Engine.keep(x, g, "a");
            Engine.keep(x, g, "b");
            Engine.keep(x, g, "c");
            x.crash(99);
            Due.due("poke", x.poke(i, 1 << i % 8), true);
            int whole = i / 23;
            Due.due("names behind a poke of " + i, x.reopen(), whole);
            Due.due("logged", x.logged(), 23 * whole);
            Due.due("a", Math.min(0, Engine.open(x, "a")), whole > 0 ? 0 : -14);
            Due.due("b", Math.min(0, Engine.open(x, "b")), whole > 1 ? 0 : -14);
            Due.due("c", Engine.open(x, "c"), -14);
            Due.due("the log goes on behind what is whole", Engine.keep(x, x.grid(0), "d"), 23 * whole + 23);
        }
        GridEngine x = new GridEngine();
        int g = x.grid(0);
        Engine.keep(x, g, "a");
        x.put(g, 0, 1);
        Engine.keep(x, g, "a");
        x.crash(22);
        Due.due("the earlier one is back", x.reopen(), 1);
        Due.due("a", x.cell(Engine.open(x, "a"), 0), 0);
    }

    private static void openedAtMost10Times() {
        GridEngine x = new GridEngine();
        Engine.keep(x, x.grid(0), "a");
        for (int n = 1; n <= 10; n++) {
            Due.due("reopen, open", x.reopen(), -13);
            Due.due("crash " + n, x.crash(23), true);
            Due.due("reopen " + n, x.reopen(), 1);
        }
        Due.due("open", Engine.open(x, "a"), 2);
        Due.due("crash 11", x.crash(23), true);
        for (int n = 0; n < 3; n++) {
            Due.due("reopen 11", x.reopen(), -12);
        }
        Due.due("it stays closed", x.grid(0), -13);
        Due.due("and can't crash", x.crash(0), false);
        Due.due("the log is there", x.logged(), 23);
        Due.due("poke", x.poke(0, 1), true);
    }
}
