/**
 * Term 1 and promises 7, 21 and 22: the bounds of the lanes, what fits what, the casts at the least and
 * the greatest value by all four rules, and that no not-a-number ever comes in.
 */
final class LaneBoundsTest {
    private static final double INF = Double.POSITIVE_INFINITY;
    private static final float FINF = Float.POSITIVE_INFINITY;

    private LaneBoundsTest() {
    }

    public static void main(String[] args) {
        lanesAre0To7();
        bitsEndAtTheLanesBounds();
        laneFitsOnlyWhatItWidensTo();
        wideningTakesTheNearest();
        rulesAre0To3();
        wholeToWhole();
        fractionsToWhole();
        beyondTheLeastAndTheGreatest();
        halvesByRule3();
        wholeToFloatAndDouble();
        doubleToFloat();
        exactAtItsEdges();
        booleansGoToBooleanAlone();
        noNotANumberComesIn();
        Due.finish();
    }

    private static void lanesAre0To7() {
        GridEngine x = new GridEngine();
        for (int lane : new int[] {Integer.MIN_VALUE, -1, 8, Integer.MAX_VALUE}) {
            Refused.due(x, "grid(" + lane + ")", () -> x.grid(lane), -14);
        }
        for (int lane = 0; lane <= 7; lane++) {
            Due.due("grid(" + lane + ")", x.grid(lane), lane + 1);
            Due.due("lane", x.lane(lane + 1), lane);
        }
        for (int lane : new int[] {Integer.MIN_VALUE, -1, 8, Integer.MAX_VALUE}) {
            Refused.due(x, "put of lane " + lane, () -> x.put(8, lane, 0), -14);
            Refused.due(x, "cast to lane " + lane, () -> x.cast(8, lane, 0), -14);
        }
    }

    private static void bitsEndAtTheLanesBounds() {
        long[][] taken = {
            {0, 1}, {-128, 127}, {-32768, 32767}, {0, 65535}, {-2147483648L, 2147483647L}, {Long.MIN_VALUE, Long.MAX_VALUE},
            {0, 0x00000001L, 0x7f7fffffL, 0x7f800000L, 0x80000000L, 0xff7fffffL, 0xff800000L},
            {0, 1, 0x7fefffffffffffffL, 0x7ff0000000000000L, 0x8000000000000000L, 0xffefffffffffffffL, 0xfff0000000000000L}
        };
        long[][] refused = {
            {-1, 2, Long.MIN_VALUE, Long.MAX_VALUE}, {-129, 128, 255}, {-32769, 32768, 65535}, {-1, 65536}, {-2147483649L, 2147483648L, 0xffffffffL}, {},
            {-1, 0x7f800001L, 0x7fffffffL, 0xff800001L, 0xffffffffL, 0x100000000L, 0x180000000L, Long.MIN_VALUE},
            {0x7ff0000000000001L, 0x7fffffffffffffffL, 0xfff0000000000001L, -1}
        };
        for (int lane = 0; lane < 8; lane++) {
            GridEngine x = new GridEngine();
            int own = lane;
            int g = x.grid(lane);
            int row = Engine.grid(x, lane, new int[] {1});
            for (long bits : taken[lane]) {
                Due.due("put " + bits + " of lane " + lane, x.put(g, lane, bits), 0);
                Due.due("get", x.get(g), bits);
                Due.due("search", x.search(row, bits) >= 0, true);
            }
            for (long bits : refused[lane]) {
                Refused.due(x, "put " + bits + " of lane " + lane, () -> x.put(g, own, bits), -1);
                Refused.due(x, "search for " + bits + " of lane " + lane, () -> x.search(row, bits), -1);
            }
        }
    }

    private static void laneFitsOnlyWhatItWidensTo() {
        String[] fits = {"0", "124567", "24567", "34567", "4567", "567", "67", "7"};
        for (int from = 0; from < 8; from++) {
            for (int to = 0; to < 8; to++) {
                GridEngine x = new GridEngine();
                boolean fine = fits[from].indexOf('0' + to) >= 0;
                int lane = from;
                int source = Engine.row(x, from, 1);
                int target = Engine.row(x, to, 0);
                int one = x.grid(to);
                if (fine) {
                    Due.due("put " + from + " into " + to, x.put(one, from, 1), 0);
                    Due.due("copy " + from + " into " + to, x.copy(source, target), 0);
                } else {
                    Refused.due(x, "put " + from + " into " + to, () -> x.put(one, lane, 1), -1);
                    Refused.due(x, "copy " + from + " into " + to, () -> x.copy(source, target), -1);
                }
            }
        }
    }

    private static void wideningTakesTheNearest() {
        long[][] cases = {
            {4, 16777216, 6, Engine.bits(16777216f)}, {4, 16777217, 6, Engine.bits(16777216f)}, {4, 16777219, 6, Engine.bits(16777220f)},
            {4, Integer.MAX_VALUE, 6, Engine.bits(2147483648f)}, {4, Integer.MIN_VALUE, 6, Engine.bits(-2147483648f)},
            {5, (1L << 53) + 1, 7, Engine.bits(0x1p53)}, {5, (1L << 53) + 3, 7, Engine.bits(0x1p53 + 4)}, {5, Long.MAX_VALUE, 7, Engine.bits(0x1p63)},
            {5, Long.MIN_VALUE, 7, Engine.bits(-0x1p63)}, {5, Long.MAX_VALUE, 6, Engine.bits(0x1p63f)}, {5, Long.MIN_VALUE, 6, Engine.bits(-0x1p63f)},
            {5, 0x7fffffbfffffffffL, 6, Engine.bits(0x1.fffffep62f)}, {5, 0x7fffffc000000000L, 6, Engine.bits(0x1p63f)},
            {6, Engine.bits(Float.MIN_VALUE), 7, Engine.bits((double) Float.MIN_VALUE)}, {6, Engine.bits(-FINF), 7, Engine.bits(-INF)},
            {6, Engine.bits(-0f), 7, Engine.bits(-0.0)}, {6, Engine.bits(Float.MAX_VALUE), 7, Engine.bits((double) Float.MAX_VALUE)},
            {3, 65535, 6, Engine.bits(65535f)}, {1, -128, 7, Engine.bits(-128.0)}
        };
        for (long[] c : cases) {
            GridEngine x = new GridEngine();
            int g = x.grid((int) c[2]);
            Due.due("put", x.put(g, (int) c[0], c[1]), 0);
            Due.due("widened " + c[1] + " of lane " + c[0], x.get(g), c[3]);
            int source = Engine.row(x, (int) c[0], c[1]);
            int target = Engine.row(x, (int) c[2], 0);
            x.copy(source, target);
            Due.due("copied", x.cell(target, 0), c[3]);
        }
    }

    private static void rulesAre0To3() {
        GridEngine x = new GridEngine();
        int g = Engine.ints(x, 300);
        for (int rule : new int[] {Integer.MIN_VALUE, -1, 4, Integer.MAX_VALUE}) {
            Refused.due(x, "rule " + rule, () -> x.cast(g, 1, rule), -14);
        }
        long[] want = {44, 127, 0, 127};
        for (int rule = 0; rule <= 3; rule++) {
            int c = x.cast(g, 1, rule);
            Due.due("rule " + rule, rule == 2 ? c : x.cell(c, 0), rule == 2 ? -8 : want[rule]);
        }
    }

    private static final int FAILS = 99999;

    /** A value cast by the four rules. */
    private static void rules(int from, long bits, int to, long... want) {
        for (int rule = 0; rule < 4; rule++) {
            GridEngine x = new GridEngine();
            int g = Engine.grid(x, from, new int[] {2, 2}, from == 0 ? 1 : 0, 0, bits, 0);
            String call = "cast " + bits + " of lane " + from + " to " + to + " by " + rule;
            if (want[rule] == FAILS) {
                int by = rule;
                Refused.due(x, call, () -> x.cast(g, to, by), -8);
                Due.due(call + ": failed(0)", x.failed(0), 1);
                Due.due(call + ": failed(1)", x.failed(1), 0);
                Due.due(call + ": failed(2)", x.failed(2), -1);
            } else {
                int c = x.cast(g, to, rule);
                Due.due(call + ": lane", x.lane(c), to);
                Due.due(call, x.cell(c, 2), want[rule]);
                Due.due(call + ": failed(0)", x.failed(0), -1);
            }
        }
    }

    private static void wholeToWhole() {
        rules(4, 127, 1, 127, 127, 127, 127);
        rules(4, 128, 1, -128, 127, FAILS, 127);
        rules(4, -128, 1, -128, -128, -128, -128);
        rules(4, -129, 1, 127, -128, FAILS, -128);
        rules(4, 32767, 2, 32767, 32767, 32767, 32767);
        rules(4, 32768, 2, -32768, 32767, FAILS, 32767);
        rules(4, -32769, 2, 32767, -32768, FAILS, -32768);
        rules(4, 65535, 3, 65535, 65535, 65535, 65535);
        rules(4, 65536, 3, 0, 65535, FAILS, 65535);
        rules(4, -1, 3, 65535, 0, FAILS, 0);
        rules(1, -1, 3, 65535, 0, FAILS, 0);
        rules(2, -32768, 3, 32768, 0, FAILS, 0);
        rules(3, 65535, 2, -1, 32767, FAILS, 32767);
        rules(3, 32767, 2, 32767, 32767, 32767, 32767);
        rules(3, 255, 1, -1, 127, FAILS, 127);
        rules(5, 2147483647L, 4, 2147483647, 2147483647, 2147483647, 2147483647);
        rules(5, 2147483648L, 4, Integer.MIN_VALUE, Integer.MAX_VALUE, FAILS, Integer.MAX_VALUE);
        rules(5, -2147483649L, 4, Integer.MAX_VALUE, Integer.MIN_VALUE, FAILS, Integer.MIN_VALUE);
        rules(5, Long.MAX_VALUE, 1, -1, 127, FAILS, 127);
        rules(5, Long.MIN_VALUE, 3, 0, 0, FAILS, 0);
        rules(1, -128, 5, -128, -128, -128, -128);
        rules(3, 65535, 4, 65535, 65535, 65535, 65535);
    }

    private static void fractionsToWhole() {
        rules(7, Engine.bits(0.9), 4, 0, 0, FAILS, 1);
        rules(7, Engine.bits(-0.9), 4, 0, 0, FAILS, -1);
        rules(7, Engine.bits(-0.9), 3, 0, 0, FAILS, 0);
        rules(7, Engine.bits(Double.MIN_VALUE), 5, 0, 0, FAILS, 0);
        rules(7, Engine.bits(-0.0), 4, 0, 0, 0, 0);
        rules(6, Engine.bits(-0f), 1, 0, 0, 0, 0);
        rules(7, Engine.bits(127.9), 1, 127, 127, FAILS, 127);
        rules(7, Engine.bits(-128.9), 1, -128, -128, FAILS, -128);
        rules(7, Engine.bits(65535.9), 3, 65535, 65535, FAILS, 65535);
        rules(7, Engine.bits(2147483647.9), 4, Integer.MAX_VALUE, Integer.MAX_VALUE, FAILS, Integer.MAX_VALUE);
        rules(6, Engine.bits(99.5f), 2, 99, 99, FAILS, 100);
    }

    private static void beyondTheLeastAndTheGreatest() {
        rules(7, Engine.bits(128.0), 1, -128, 127, FAILS, 127);
        rules(7, Engine.bits(-129.0), 1, 127, -128, FAILS, -128);
        rules(7, Engine.bits(65536.0), 3, 0, 65535, FAILS, 65535);
        rules(7, Engine.bits(-1.0), 3, 65535, 0, FAILS, 0);
        rules(7, Engine.bits(2147483647.0), 4, 2147483647, 2147483647, 2147483647, 2147483647);
        rules(7, Engine.bits(2147483648.0), 4, Integer.MAX_VALUE, Integer.MAX_VALUE, FAILS, Integer.MAX_VALUE);
        rules(7, Engine.bits(-2147483648.0), 4, Integer.MIN_VALUE, Integer.MIN_VALUE, Integer.MIN_VALUE, Integer.MIN_VALUE);
        rules(7, Engine.bits(-2147483649.0), 4, Integer.MIN_VALUE, Integer.MIN_VALUE, FAILS, Integer.MIN_VALUE);
        // To byte, short and char by way of int.
        rules(7, Engine.bits(2147483648.0), 1, -1, 127, FAILS, 127);
        rules(7, Engine.bits(-2147483649.0), 2, 0, -32768, FAILS, -32768);
        rules(7, Engine.bits(1e18), 3, 65535, 65535, FAILS, 65535);
        rules(7, Engine.bits(0x1p63), 5, Long.MAX_VALUE, Long.MAX_VALUE, FAILS, Long.MAX_VALUE);
        rules(7, Engine.bits(-0x1p63), 5, Long.MIN_VALUE, Long.MIN_VALUE, Long.MIN_VALUE, Long.MIN_VALUE);
        rules(7, Engine.bits(Math.nextDown(-0x1p63)), 5, Long.MIN_VALUE, Long.MIN_VALUE, FAILS, Long.MIN_VALUE);
        rules(7, Engine.bits(Math.nextDown(0x1p63)), 5, Long.MAX_VALUE - 1023, Long.MAX_VALUE - 1023, Long.MAX_VALUE - 1023, Long.MAX_VALUE - 1023);
        rules(6, Engine.bits(0x1p63f), 5, Long.MAX_VALUE, Long.MAX_VALUE, FAILS, Long.MAX_VALUE);
        rules(6, Engine.bits(0x1p31f), 4, Integer.MAX_VALUE, Integer.MAX_VALUE, FAILS, Integer.MAX_VALUE);
        for (int to = 1; to <= 5; to++) {
            long least = Reference.LEAST[to];
            long greatest = Reference.GREATEST[to];
            long[] plain = {0, -1, -1, 65535, Integer.MAX_VALUE, Long.MAX_VALUE};
            long[] plainBelow = {0, 0, 0, 0, Integer.MIN_VALUE, Long.MIN_VALUE};
            rules(7, Engine.bits(INF), to, plain[to], greatest, FAILS, greatest);
            rules(7, Engine.bits(-INF), to, plainBelow[to], least, FAILS, least);
            rules(6, Engine.bits(FINF), to, plain[to], greatest, FAILS, greatest);
            rules(6, Engine.bits(-FINF), to, plainBelow[to], least, FAILS, least);
        }
    }

    private static void halvesByRule3() {
        rules(7, Engine.bits(0.5), 4, 0, 0, FAILS, 0);
        rules(7, Engine.bits(1.5), 4, 1, 1, FAILS, 2);
        rules(7, Engine.bits(2.5), 4, 2, 2, FAILS, 2);
        rules(7, Engine.bits(-0.5), 4, 0, 0, FAILS, 0);
        rules(7, Engine.bits(-1.5), 4, -1, -1, FAILS, -2);
        rules(7, Engine.bits(0.49999999999999994), 4, 0, 0, FAILS, 0);
        rules(7, Engine.bits(0.5000000000000001), 4, 0, 0, FAILS, 1);
        rules(7, Engine.bits(126.5), 1, 126, 126, FAILS, 126);
        rules(7, Engine.bits(127.5), 1, 127, 127, FAILS, 127);
        rules(7, Engine.bits(-128.5), 1, -128, -128, FAILS, -128);
        rules(7, Engine.bits(-0.5), 3, 0, 0, FAILS, 0);
        rules(7, Engine.bits(-0.6), 3, 0, 0, FAILS, 0);
        rules(7, Engine.bits(65534.5), 3, 65534, 65534, FAILS, 65534);
        rules(7, Engine.bits(65535.5), 3, 65535, 65535, FAILS, 65535);
        rules(7, Engine.bits(2147483646.5), 4, 2147483646, 2147483646, FAILS, 2147483646);
        rules(7, Engine.bits(2147483647.5), 4, 2147483647, 2147483647, FAILS, 2147483647);
        rules(7, Engine.bits(-2147483648.5), 4, -2147483648L, -2147483648L, FAILS, -2147483648L);
        rules(7, Engine.bits(4503599627370495.5), 5, 4503599627370495L, 4503599627370495L, FAILS, 4503599627370496L);
        rules(6, Engine.bits(8388607.5f), 5, 8388607, 8388607, FAILS, 8388608);
        rules(6, Engine.bits(2.5f), 5, 2, 2, FAILS, 2);
    }

    private static void wholeToFloatAndDouble() {
        long f24 = Engine.bits(16777216f);
        rules(4, 16777216, 6, f24, f24, f24, f24);
        rules(4, 16777217, 6, f24, f24, FAILS, f24);
        rules(4, -16777217, 6, Engine.bits(-16777216f), Engine.bits(-16777216f), FAILS, Engine.bits(-16777216f));
        long f26 = Engine.bits(16777220f);
        rules(4, 16777219, 6, f26, f26, FAILS, f26);
        long top = Engine.bits(0x1p31f);
        rules(4, Integer.MAX_VALUE, 6, top, top, FAILS, top);
        long low = Engine.bits(-0x1p31f);
        rules(4, Integer.MIN_VALUE, 6, low, low, low, low);
        long d53 = Engine.bits(0x1p53);
        rules(5, 1L << 53, 7, d53, d53, d53, d53);
        rules(5, (1L << 53) + 1, 7, d53, d53, FAILS, d53);
        long d63 = Engine.bits(0x1p63);
        // Cast back, 2^63 would be the greatest long again: it is another number all the same.
        rules(5, Long.MAX_VALUE, 7, d63, d63, FAILS, d63);
        rules(5, Long.MAX_VALUE, 6, Engine.bits(0x1p63f), Engine.bits(0x1p63f), FAILS, Engine.bits(0x1p63f));
        long dLeast = Engine.bits(-0x1p63);
        rules(5, Long.MIN_VALUE, 7, dLeast, dLeast, dLeast, dLeast);
        rules(4, Integer.MAX_VALUE, 7, Engine.bits(2147483647.0), Engine.bits(2147483647.0), Engine.bits(2147483647.0), Engine.bits(2147483647.0));
        rules(3, 65535, 6, Engine.bits(65535f), Engine.bits(65535f), Engine.bits(65535f), Engine.bits(65535f));
    }

    private static void doubleToFloat() {
        long inf = Engine.bits(FINF);
        long max = Engine.bits(Float.MAX_VALUE);
        long least = Engine.bits(Float.MIN_VALUE);
        rules(7, Engine.bits((double) Float.MAX_VALUE), 6, max, max, max, max);
        rules(7, Engine.bits(3.4028235677973362E38), 6, max, max, FAILS, max);
        rules(7, Engine.bits(3.4028235677973366E38), 6, inf, inf, FAILS, inf);
        rules(7, Engine.bits(Double.MAX_VALUE), 6, inf, inf, FAILS, inf);
        rules(7, Engine.bits(INF), 6, inf, inf, inf, inf);
        rules(7, Engine.bits(-INF), 6, Engine.bits(-FINF), Engine.bits(-FINF), Engine.bits(-FINF), Engine.bits(-FINF));
        rules(7, Engine.bits((double) Float.MIN_VALUE), 6, least, least, least, least);
        rules(7, Engine.bits(Math.nextUp(0x1p-150)), 6, least, least, FAILS, least);
        rules(7, Engine.bits(0x1p-150), 6, 0, 0, FAILS, 0);
        rules(7, Engine.bits(-0x1p-150), 6, Engine.bits(-0f), Engine.bits(-0f), FAILS, Engine.bits(-0f));
        rules(7, Engine.bits(Double.MIN_VALUE), 6, 0, 0, FAILS, 0);
        rules(7, Engine.bits(-0.0), 6, Engine.bits(-0f), Engine.bits(-0f), Engine.bits(-0f), Engine.bits(-0f));
        rules(7, Engine.bits(0.1), 6, Engine.bits(0.1f), Engine.bits(0.1f), FAILS, Engine.bits(0.1f));
        rules(6, Engine.bits(Float.MAX_VALUE), 7, Engine.bits((double) Float.MAX_VALUE), Engine.bits((double) Float.MAX_VALUE),
            Engine.bits((double) Float.MAX_VALUE), Engine.bits((double) Float.MAX_VALUE));
    }

    private static void exactAtItsEdges() {
        GridEngine x = new GridEngine();
        int g = Engine.doubles(x, 1, -0.0, 127, -128, 127.5, 128);
        Due.due("the first that fails", x.cast(g, 1, 2), -8);
        Due.due("failed(0)", x.failed(0), 4);
        int v = Engine.view(x, g, ":4");
        Due.due("those before it", Engine.cells(x, x.cast(v, 1, 2)), 1, 0, 127, -128);
        Due.due("failed(0)", x.failed(0), -1);
        int w = Engine.view(x, g, "::-1");
        Due.due("in row order of the view", x.cast(w, 1, 2), -8);
        Due.due("failed(0)", x.failed(0), 0);
        int none = Engine.grid(x, 7, new int[] {0});
        Due.due("of none nothing fails", x.cells(x.cast(none, 1, 2)), 0);
    }

    private static void booleansGoToBooleanAlone() {
        for (int rule = 0; rule < 4; rule++) {
            int by = rule;
            GridEngine x = new GridEngine();
            int b = Engine.row(x, 0, 1, 0);
            Due.due("boolean to boolean", Engine.cells(x, x.cast(b, 0, rule)), 1, 0);
            for (int lane = 1; lane < 8; lane++) {
                int other = lane;
                int g = Engine.row(x, lane, 0);
                Refused.due(x, "boolean to " + lane, () -> x.cast(b, other, by), -1);
                Refused.due(x, lane + " to boolean", () -> x.cast(g, 0, by), -1);
            }
        }
    }

    private static void noNotANumberComesIn() {
        GridEngine x = new GridEngine();
        int inf = Engine.doubles(x, INF, -INF, 0);
        int floats = Engine.floats(x, FINF, -FINF, 0f);
        Refused.due(x, "sum", () -> x.fold(inf, 0, 0), -8);
        Refused.due(x, "sum of floats", () -> x.fold(floats, 0, 0), -8);
        Refused.due(x, "product", () -> x.fold(inf, 2, 0), -8);
        Refused.due(x, "paired sum", () -> x.fold(inf, 8, 0), -8);
        Refused.due(x, "running sum", () -> x.running(inf, 0, 0), -8);
        Refused.due(x, "running product", () -> x.running(floats, 2, -1), -8);
        int keys = Engine.ints(x, 1, 1, 1);
        Refused.due(x, "sums of groups", () -> x.groups(keys, inf, 0), -8);
        int row = Engine.view(x, inf, "*");
        int column = Engine.grid(x, 7, new int[] {3, 1});
        Refused.due(x, "product of matrices", () -> x.product(row, column), -8);
        x.bind(0, inf);
        x.bind(1, floats);
        String[] texts = {
            "a - a", "b - b", "a + -a", "a * 0.0", "b * 0.0F", "0.0 / 0.0", "0.0F / 0.0F", "a / a", "b / b", "1.0 % 0.0", "a % 2.0", "b % 2.0F",
            "sqrt(-1.0)", "sqrt(a * -1.0)", "sqrt(-1)"
        };
        for (String text : texts) {
            Refused.due(x, text, () -> Engine.formula(x, text), -8);
        }
        String[] fine = {"1.0 / 0.0", "-1.0 / 0.0", "a + 1.0", "5.0 % (1.0 / 0.0)", "sqrt(-0.0)", "abs(a)", "min(a, -a)", "floor(a)", "round(b)", "ceil(a)"};
        for (String text : fine) {
            Due.due(text, Engine.formula(x, text) > 0, true);
        }
    }
}
