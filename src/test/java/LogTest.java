/** Promises 49 to 54: the log, crashes, and opening it again. */
final class LogTest {
    private LogTest() {
    }

    public static void main(String[] args) {
        keeping();
        names();
        rooms();
        crashes();
        everyCut();
        everyPoke();
        forged();
        opens();
        Due.finish();
    }

    private static void keeping() {
        GridEngine x = new GridEngine();
        int g = Engine.ints(x, 7, -1);
        Due.due("keep", Engine.keep(x, g, "pair"), 35);
        Due.due("logged", x.logged(), 35);
        x.at(0);
        x.put(g, 4, 8);
        int h = Engine.open(x, "pair");
        Due.due("open", h, 2);
        Due.due("as it was kept", Engine.cells(x, h), 7, -1);
        Due.due("keep again", Engine.keep(x, g, "pair"), 70);
        Due.due("the later one", Engine.cells(x, Engine.open(x, "pair")), 8, -1);
        int v = Engine.view(x, g, "*,::-1");
        Due.due("keep a view", Engine.keep(x, v, "q"), 70 + 4 + 1 + 1 + 20 + 8);
        int o = Engine.open(x, "q");
        Due.due("shape", Engine.shape(x, o), "1x2");
        Due.due("cells", Engine.cells(x, o), -1, 8);
        Due.due("its own cells", x.shares(o, g), 0);
        Due.due("open of none", Engine.open(x, "r"), -14);
        Due.due("open of nothing", Engine.open(x, ""), -14);
        Due.due("open of a beginning", Engine.open(x, "pai"), -14);
        Due.due("open of more", Engine.open(x, "pairs"), -14);
        Due.due("crash", x.crash(1000), true);
        Due.due("closed: logged", x.logged(), 104);
        Engine.feed(x, "pair");
        Due.due("keep, closed", x.keep(g), -13);
        Due.due("open, closed", x.open(), -13);
        Due.due("reopen", x.reopen(), 2);
        Due.due("the tray stayed", Engine.cells(x, x.open()), 8, -1);
        Due.due("the grid's number went on", x.lane(6), 4);
        Due.due("old grids are lost", x.lane(g), -14);
    }

    private static void names() {
        GridEngine x = new GridEngine();
        int g = x.grid(0);
        Due.due("no name", Engine.keep(x, g, ""), -1);
        Due.due("a blank", Engine.keep(x, g, "a b"), -1);
        Due.due("byte 127", Engine.keep(x, g, "a\u007f"), -1);
        Due.due("byte 200", Engine.keep(x, g, "\u00c8"), -1);
        Due.due("byte 10", Engine.keep(x, g, "a\n"), -1);
        Due.due("21 bytes", Engine.keep(x, g, "a".repeat(21)), -1);
        Due.due("20 bytes", Engine.keep(x, g, "!" + "~".repeat(19)), 4 + 1 + 20 + 9 + 8);
        Due.due("no grid, no name", Engine.keep(x, 9, ""), -14);
        Due.due("the tray is used up", x.keep(g), -1);
        Due.due("open", Engine.open(x, "!" + "~".repeat(19)), 2);
    }

    private static void rooms() {
        GridEngine x = new GridEngine();
        int g = Engine.grid(x, 1, new int[] {12, 2499});
        int h = Engine.grid(x, 1, new int[] {13, 2307});
        Due.due("30000 bytes", Engine.keep(x, g, "g"), 30000 + 14);
        Due.due("too many bytes", Engine.keep(x, h, "h"), -12);
        Due.due("no name before 12", Engine.keep(x, h, ""), -1);
        Due.due("60028 bytes", Engine.keep(x, g, "g"), -12);
        int k = Engine.grid(x, 1, new int[] {12, 2496});
        Due.due("59992 bytes", Engine.keep(x, k, "k"), 30014 + 29964 + 14);
        Due.due("logged", x.logged(), 59992);
        while (x.lane(400) < 0) {
            x.turned(g, 0, 1);
        }
        Due.due("open: no room", Engine.open(x, "g"), -12);
        Due.due("open: 14 before 12", Engine.open(x, "z"), -14);
        GridEngine z = new GridEngine();
        int half = Engine.grid(z, 1, new int[] {14, 2141});
        Due.due("30000 bytes", Engine.keep(z, half, "h"), 30000);
        Due.due("60000 bytes", Engine.keep(z, half, "h"), 60000);
        Due.due("no more", Engine.keep(z, z.grid(0), "h"), -12);
        z.crash(30000);
        Due.due("reopen", z.reopen(), 1);
        Due.due("logged", z.logged(), 60000);
        Due.due("open", z.cells(Engine.open(z, "h")), 14 * 2141);
        GridEngine y = new GridEngine();
        int one = y.grid(0);
        int length = 0;
        // 23 bytes a record.
        for (int n = 0; length >= 0 && n < 2700; n++) {
            y.feed('a' << 24, 0, 0, 0, 0);
            y.end(1);
            int before = length;
            length = y.keep(one);
            if (length < 0) {
                Due.due("the last one that fits", before, 60000 / 23 * 23);
            }
        }
        Due.due("no more", length, -12);
    }

    private static void crashes() {
        GridEngine x = new GridEngine();
        Due.due("poke, open", x.poke(0, 1), false);
        Due.due("crash(-1)", x.crash(-1), false);
        Due.due("reopen, open", x.reopen(), -13);
        int g = Engine.ints(x, 1);
        Engine.keep(x, g, "a");
        x.axis(3);
        x.at(3);
        Due.due("crash", x.crash(0), true);
        Due.due("the last record is gone", x.logged(), 0);
        Due.due("crash, closed", x.crash(0), false);
        Due.due("axis: what was collected is lost", x.axis(1), 1);
        Due.due("at: what was collected is lost", x.at(1), 1);
        Due.due("poke of none", x.poke(0, 1), false);
        Due.due("poke of -1", x.poke(-1, 1), false);
        Due.due("reopen", x.reopen(), 0);
        Due.due("the next number", x.grid(0), 2);
        Due.due("crash without a record", x.crash(5), true);
        Due.due("reopen", x.reopen(), 0);
        Due.due("a lost grid", x.copy(1, 1), -14);
        g = Engine.ints(x, 5);
        Engine.keep(x, g, "one");
        int first = x.logged();
        Engine.keep(x, g, "two");
        x.crash(7);
        Due.due("the first 7 bytes of the last one", x.logged(), first + 7);
        Due.due("reopen", x.reopen(), 1);
        Due.due("what was cut short is cut off", x.logged(), first);
        Due.due("one", Engine.cells(x, Engine.open(x, "one")), 5);
        Due.due("two", Engine.open(x, "two"), -14);
        x.crash(3);
        Due.due("the record before is the last one now", x.logged(), 3);
        Due.due("reopen", x.reopen(), 0);
        Due.due("logged", x.logged(), 0);
        g = Engine.ints(x, 6);
        Due.due("keep goes on", Engine.keep(x, g, "x"), 28);
    }

    private static GridEngine threeRecords() {
        GridEngine x = new GridEngine();
        int g = Engine.ints(x, 1, 2);
        Engine.keep(x, g, "ab");
        Engine.keep(x, Engine.row(x, 7, Engine.bits(0.5)), "c");
        Engine.keep(x, Engine.row(x, 0, 1), "ab");
        return x;
    }

    /** The lengths: 33, 32, 26. */
    private static void everyCut() {
        Due.due("logged", threeRecords().logged(), 33 + 32 + 26);
        for (int n = 0; n <= 27; n++) {
            GridEngine x = threeRecords();
            x.crash(n);
            Due.due("left", x.logged(), 65 + Math.min(n, 26));
            Due.due("names", x.reopen(), 2);
            Due.due("left", x.logged(), n >= 26 ? 91 : 65);
            Due.due("the later or the earlier one", Engine.cells(x, Engine.open(x, "ab")), n >= 26 ? new long[] {1} : new long[] {1, 2});
            Due.due("c", x.lane(Engine.open(x, "c")), 7);
        }
    }

    private static void everyPoke() {
        for (int i = 0; i < 91; i++) {
            for (int bit = 0; bit < 8; bit++) {
                GridEngine x = threeRecords();
                x.crash(99);
                Due.due("poke", x.poke(i, 1 << bit | 0xff00), true);
                Due.due("names", x.reopen(), i < 33 ? 0 : i < 65 ? 1 : 2);
                Due.due("left", x.logged(), i < 33 ? 0 : i < 65 ? 33 : 65);
                Due.due("ab", Math.min(0, Engine.open(x, "ab")), i < 33 ? -14 : 0);
                Due.due("c", Math.min(0, Engine.open(x, "c")), i < 65 ? -14 : 0);
            }
        }
        GridEngine x = threeRecords();
        x.crash(99);
        Due.due("poke", x.poke(40, 0x55), true);
        Due.due("poke back", x.poke(40, 0x55), true);
        Due.due("poke of nothing", x.poke(41, 256), true);
        Due.due("poke beyond", x.poke(91, 1), false);
        Due.due("names", x.reopen(), 2);
        Due.due("poke, open", x.poke(40, 1), false);
        Due.due("logged", x.logged(), 91);
    }

    private static long sum(byte[] bytes, int many) {
        long s = 0;
        for (int k = 0; k < many; k++) {
            s = Long.rotateLeft(s ^ bytes[k] & 255, 27) * 0x9E3779B97F4A7C15L;
        }
        return s;
    }

    /** A record whose name was changed, and its sum with it, by the document's rule: it is found whole. */
    private static void forged() {
        GridEngine x = new GridEngine();
        int g = x.grid(1);
        x.put(g, 1, 5);
        byte[] grid = Engine.written(x, x.bytes(g));
        int length = Engine.keep(x, g, "a");
        Due.due("keep", length, 4 + 1 + 1 + grid.length + 8);
        byte[] record = new byte[length];
        record[3] = (byte) length;
        record[4] = 1;
        record[5] = 'a';
        System.arraycopy(grid, 0, record, 6, grid.length);
        long before = sum(record, length - 8);
        record[5] = 'b';
        long after = sum(record, length - 8);
        x.crash(length);
        x.poke(5, 'a' ^ 'b');
        for (int k = 0; k < 8; k++) {
            x.poke(length - 8 + k, (int) ((before ^ after) >>> (56 - 8 * k)) & 255);
        }
        Due.due("reopen", x.reopen(), 1);
        Due.due("open a", Engine.open(x, "a"), -14);
        Due.due("open b", x.cell(Engine.open(x, "b"), 0), 5);
    }

    private static void opens() {
        GridEngine x = new GridEngine();
        Engine.keep(x, x.grid(0), "a");
        for (int n = 1; n <= 10; n++) {
            x.crash(100);
            Due.due("reopen " + n, x.reopen(), 1);
        }
        x.crash(100);
        Due.due("reopen 11", x.reopen(), -12);
        Due.due("it stays closed", x.grid(0), -13);
        Due.due("poke", x.poke(0, 0), true);
        Due.due("reopen 12", x.reopen(), -12);
        Due.due("crash", x.crash(0), false);
    }
}
