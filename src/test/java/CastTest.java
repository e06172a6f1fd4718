/** Promise 22: casts by their four rules, at the edges that the document names. */
final class CastTest {
    private CastTest() {
    }

    public static void main(String[] args) {
        refusals();
        rules();
        shapes();
        Due.finish();
    }

    private static void refusals() {
        GridEngine x = new GridEngine();
        int i = Engine.ints(x, 1, 2);
        int b = Engine.row(x, 0, 1, 0);
        Due.due("lane 8", x.cast(i, 8, 0), -14);
        Due.due("lane -1", x.cast(i, -1, 0), -14);
        Due.due("rule 4", x.cast(i, 4, 4), -14);
        Due.due("rule -1", x.cast(i, 4, -1), -14);
        Due.due("rule 4 and a boolean", x.cast(b, 4, 4), -14);
        Due.due("grid 9", x.cast(9, 4, 0), -14);
        for (int rule = 0; rule < 4; rule++) {
            Due.due("boolean to int", x.cast(b, 4, rule), -1);
            Due.due("int to boolean", x.cast(i, 0, rule), -1);
            int c = x.cast(b, 0, rule);
            Due.due("boolean to boolean", Engine.cells(x, c), 1, 0);
            Due.due("its own cells", x.shares(b, c), 0);
        }
        while (x.lane(400) < 0) {
            x.turned(i, 0, 0);
        }
        Due.due("no room", x.cast(i, 5, 0), -12);
        x.at(1);
        x.put(i, 4, 300);
        Due.due("8 before 12", x.cast(i, 1, 2), -8);
        Due.due("failed(0)", x.failed(0), 1);
        Due.due("no room", x.cast(i, 1, 0), -12);
        Due.due("failed(0)", x.failed(0), -1);
        x.crash(0);
        Due.due("cast, closed", x.cast(i, 99, 99), -13);
    }

    private static void one(int from, long bits, int to, int rule, long want) {
        GridEngine x = new GridEngine();
        int c = x.cast(Engine.row(x, from, bits), to, rule);
        String call = "cast " + bits + " of lane " + from + " to " + to + " by " + rule;
        Due.due(call, x.cell(c, 0), want);
        Due.due(call + ": lane", x.lane(c), to);
    }

    private static void fails(int from, long bits, int to) {
        GridEngine x = new GridEngine();
        Due.due("cast exactly " + bits, x.cast(Engine.row(x, from, bits), to, 2), -8);
        Due.due("failed(0)", x.failed(0), 0);
        Due.due("no grid", x.lane(2), -14);
    }

    private static void rules() {
        one(4, 300, 1, 0, 44);
        one(4, 300, 1, 1, 127);
        one(4, -300, 1, 1, -128);
        one(4, -1, 3, 0, 65535);
        one(4, -1, 3, 1, 0);
        one(4, 70000, 3, 3, 65535);
        one(5, Long.MIN_VALUE, 4, 0, 0);
        one(5, Long.MIN_VALUE, 4, 1, Integer.MIN_VALUE);
        one(7, Engine.bits(2.5), 4, 0, 2);
        one(7, Engine.bits(2.5), 4, 1, 2);
        one(7, Engine.bits(2.5), 4, 3, 2);
        one(7, Engine.bits(3.5), 4, 3, 4);
        one(7, Engine.bits(-2.5), 4, 3, -2);
        one(7, Engine.bits(-2.7), 4, 1, -2);
        one(7, Engine.bits(127.5), 1, 3, 127);
        one(7, Engine.bits(127.4), 1, 3, 127);
        one(7, Engine.bits(-128.5), 1, 3, -128);
        one(7, Engine.bits(65535.5), 3, 3, 65535);
        one(7, Engine.bits(-0.5), 3, 3, 0);
        one(7, Engine.bits(300.0), 1, 0, 44);
        one(7, Engine.bits(1e10), 1, 0, -1);
        one(7, Engine.bits(1e10), 1, 1, 127);
        one(7, Engine.bits(-1e10), 2, 0, 0);
        one(7, Engine.bits(1e300), 5, 0, Long.MAX_VALUE);
        one(7, Engine.bits(-1e300), 5, 3, Long.MIN_VALUE);
        one(7, Engine.bits(1e300), 6, 0, Engine.bits(Float.POSITIVE_INFINITY));
        one(7, Engine.bits(1e300), 6, 1, Engine.bits(Float.POSITIVE_INFINITY));
        one(7, Engine.bits(0.1), 6, 3, Engine.bits(0.1f));
        one(6, Engine.bits(Float.NEGATIVE_INFINITY), 4, 0, Integer.MIN_VALUE);
        one(6, Engine.bits(-0f), 7, 0, Engine.bits(-0.0));
        one(7, Engine.bits(-0.0), 4, 2, 0);
        one(7, Engine.bits(-0.0), 6, 2, Engine.bits(-0f));
        one(7, Engine.bits(0.5), 6, 2, Engine.bits(0.5f));
        one(7, Engine.bits(-128.0), 1, 2, -128);
        one(7, Engine.bits(-0x1p63), 5, 2, Long.MIN_VALUE);
        one(7, Engine.bits(Double.POSITIVE_INFINITY), 6, 2, Engine.bits(Float.POSITIVE_INFINITY));
        one(5, 1L << 53, 7, 2, Engine.bits(0x1p53));
        one(5, Long.MIN_VALUE, 7, 2, Engine.bits(-0x1p63));
        one(4, 65, 3, 2, 65);
        one(5, (1L << 53) + 1, 7, 0, Engine.bits(0x1p53));
        one(5, (1L << 53) + 3, 7, 1, Engine.bits(0x1p53 + 4));
        fails(7, Engine.bits(0.5), 4);
        fails(7, Engine.bits(128.0), 1);
        fails(7, Engine.bits(0x1p63), 5);
        fails(7, Engine.bits(Double.NEGATIVE_INFINITY), 5);
        fails(7, Engine.bits(0.1), 6);
        fails(7, Engine.bits(1e300), 6);
        fails(7, Engine.bits(1e-300), 6);
        fails(7, Engine.bits(4294967296.0), 2);
        fails(6, Engine.bits(1.5f), 5);
        fails(5, (1L << 53) + 1, 7);
        fails(5, Long.MAX_VALUE, 7);
        fails(5, Long.MAX_VALUE, 6);
        fails(4, 16777217, 6);
        fails(4, -1, 3);
        fails(4, 128, 1);
        fails(3, 65535, 2);
    }

    private static void shapes() {
        GridEngine x = new GridEngine();
        int g = Engine.grid(x, 4, new int[] {2, 3}, 1, 2, 3, 4, 500, 6);
        int t = x.turned(g, 0, 1);
        int c = x.cast(t, 2, 2);
        Due.due("shape", Engine.shape(x, c), "3x2");
        Due.due("cells", Engine.cells(x, c), 1, 4, 2, 500, 3, 6);
        Due.due("fails", x.cast(t, 1, 2), -8);
        Due.due("failed(0)", x.failed(0), 1);
        Due.due("failed(1)", x.failed(1), 1);
        Due.due("failed(2)", x.failed(2), -1);
        int single = x.grid(4);
        x.axis(2);
        int s = x.spread(single);
        int own = x.cast(s, 4, 0);
        x.at(0);
        Due.due("a cast of a spread view can be written", x.put(own, 4, 1), 0);
        int none = Engine.grid(x, 7, new int[] {0, 4});
        Due.due("no cells", Engine.shape(x, x.cast(none, 1, 2)), "0x4");
        int one = x.grid(7);
        x.put(one, 7, Engine.bits(0.5));
        Due.due("fails without axes", x.cast(one, 4, 2), -8);
        Due.due("failed(0)", x.failed(0), -1);
    }
}
