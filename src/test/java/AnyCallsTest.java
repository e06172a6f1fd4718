import java.util.Random;

/**
 * All promises: runs of any calls with any arguments in any state. No call throws, the same calls
 * give the same answers, and refusals are the codes that the document has.
 */
final class AnyCallsTest {
    private static final int[] CODES = {1, 2, 3, 4, 5, 6, 8, 10, 12, 13, 14, 15, 16, 20, 21, 22};
    private static final String[] TEXTS = {
        "", "0", ":", "::-1", "*", "-1, ::2", "a + b", "a", "i", "f(a)", "i * 3 - 4", "(double) i / 3.0", "a == b ? 1 : 2", "i > 1", "(byte) i",
        "int f(int x) = x * 2;", "long f(long x) = x;", "int g(int x, int y) = f(x) + y;", "name", "f", "g", "x,y\n1,a\n2,b\n,c\n", "p\n1.5\n2\n",
        "q\ntrue\n", "x", "p", "1 / i", "k + j", "a,a\n", "(((", "0:1,0:1", "1000", "2147483648", "f(f(f(1)))", "sqrt(2)", "\"a\",b\n\"\",\n"
    };

    private AnyCallsTest() {
    }

    public static void main(String[] args) {
        int rounds = args.length > 0 ? Integer.parseInt(args[0]) : 800;
        for (int round = 0; round < rounds; round++) {
            long first = run(round);
            Due.due("the same calls, the same answers", run(round), first);
        }
        Due.finish();
    }

    private static long run(int seed) {
        Random random = new Random(seed);
        GridEngine x = new GridEngine();
        long hash = 17;
        for (int n = 0; n < 512; n++) {
            hash = hash * 31 + call(x, random);
        }
        return hash;
    }

    private static int small(Random r) {
        int way = r.nextInt(40);
        return way == 0 ? r.nextInt() : way == 1 ? -1 : way == 2 ? Integer.MIN_VALUE : way == 3 ? Integer.MAX_VALUE : r.nextInt(way < 20 ? 4 : 12);
    }

    private static long bits(Random r) {
        return r.nextInt(4) == 0 ? r.nextLong() : r.nextInt(4) == 0 ? Double.doubleToLongBits(r.nextInt(5) - 2) : r.nextInt(5) - 2;
    }

    private static long call(GridEngine x, Random r) {
        int way = r.nextInt(100);
        if (way < 20) {
            return text(x, r);
        }
        int a = small(r);
        int b = small(r);
        int c = small(r);
        switch (way - 20) {
            case 0: case 1: case 2: case 3: case 4: case 5: return x.axis(r.nextInt(30) == 0 ? r.nextInt(4100) : r.nextInt(4));
            case 6: case 7: case 8: case 9: return x.at(a);
            case 10: case 11: case 12: case 13: return code("grid", x.grid(a));
            case 14: case 15: case 16: case 17: return code("put", x.put(a, b, bits(r)));
            case 18: return x.get(a);
            case 19: return x.cell(a, b);
            case 20: return x.code();
            case 21: return code("lane", x.lane(a));
            case 22: return code("axes", x.axes(a));
            case 23: return code("size", x.size(a, b));
            case 24: return code("cells", x.cells(a));
            case 25: return code("view", x.view(a));
            case 26: return x.place();
            case 27: return code("turned", x.turned(a, b, c));
            case 28: return code("spread", x.spread(a));
            case 29: return code("shaped", x.shaped(a));
            case 30: return code("shares", x.shares(a, b));
            case 31: case 32: return code("copy", x.copy(a, b));
            case 33: case 34: return code("cast", x.cast(a, b, c));
            case 35: return code("functions", x.functions());
            case 36: case 37: case 38: case 39: return code("bind", x.bind(a, b));
            case 40: return code("formula", x.formula());
            case 41: return code("choose", x.choose());
            case 42: return x.failed(a);
            case 43: return x.steps();
            case 44: case 45: return code("fold", x.fold(a, b, c - 1));
            case 46: case 47: return code("running", x.running(a, b, c - 1));
            case 48: return code("sorted", x.sorted(a, r.nextBoolean()));
            case 49: return code("search", x.search(a, bits(r)));
            case 50: case 51: return code("groups", x.groups(a, b, c));
            case 52: return code("join", x.join(a, b));
            case 53: case 54: return code("product", x.product(a, b));
            case 55: case 56: return code("solve", x.solve(a, b));
            case 57: return code("residues", x.residues(a, r.nextBoolean() ? 17 : r.nextInt(), r.nextBoolean()));
            case 58: return code("table", x.table());
            case 59: return code("rows", x.rows(a));
            case 60: return code("named", x.named(a));
            case 61: return code("columnLane", x.columnLane(a, b));
            case 62: return code("column", x.column(a, b));
            case 63: return code("missing", x.missing(a, b));
            case 64: return code("pick", x.pick(a, b));
            case 65: return code("write", x.write(a));
            case 66: return code("bytes", x.bytes(a));
            case 67: return x.out(a);
            case 68: return code("read", x.read());
            case 69: return code("keep", x.keep(a));
            case 70: return code("open", x.open());
            case 71: return x.logged();
            case 72: return x.poke(a, b) ? 1 : 0;
            case 73: return r.nextInt(4) == 0 && x.crash(r.nextInt(60)) ? 1 : 0;
            case 74: case 75: return code("reopen", x.reopen());
            case 76: return x.end(a);
            default: return x.feed(a, b, c, r.nextInt(), r.nextInt());
        }
    }

    private static long code(String call, int answer) {
        boolean known = answer >= 0;
        for (int c : CODES) {
            known = known || answer == -c;
        }
        Due.due(call + " answered " + answer + ": a code", known, true);
        return answer;
    }

    private static long text(GridEngine x, Random r) {
        x.end(0);
        String text = TEXTS[r.nextInt(TEXTS.length)];
        Engine.feed(x, text);
        int g = small(r);
        switch (r.nextInt(8)) {
            case 0: return code("view", x.view(g));
            case 1: return code("functions", x.functions());
            case 2: case 3: return code("formula", x.formula());
            case 4: return code("table", x.table());
            case 5: return code("keep", x.keep(g));
            case 6: return code("open", x.open());
            default: return code("named", x.named(g));
        }
    }
}
