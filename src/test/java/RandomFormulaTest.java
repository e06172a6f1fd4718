import java.util.ArrayList;
import java.util.List;
import java.util.Random;

/** Promises 23 to 28: random texts, well-formed and spoilt ones, against the reference. */
final class RandomFormulaTest {
    private static final Random RANDOM = new Random(7);
    private static final String[] BINARY = "|| && | ^ & == != < > <= >= << >> >>> + - * / %".split(" ");

    private RandomFormulaTest() {
    }

    public static void main(String[] args) {
        int rounds = args.length > 0 ? Integer.parseInt(args[0]) : 1200;
        for (int round = 0; round < rounds; round++) {
            oneEngine(round);
        }
        Due.finish();
    }

    private static int among(int n) {
        return RANDOM.nextInt(n);
    }

    private static void oneEngine(int round) {
        GridEngine x = new GridEngine();
        Reference r = new Reference();
        for (int n = 0; n < 3 + among(4); n++) {
            bind(x, r, among(8));
        }
        for (int turn = 0; turn < 12; turn++) {
            if (among(4) == 0) {
                functions(x, r, round);
            }
            formula(x, r, round);
            choose(x, r);
        }
    }

    private static void bind(GridEngine x, Reference r, int n) {
        int axes = among(5);
        int[] sizes = new int[axes];
        int many = 1;
        for (int k = 0; k < axes; k++) {
            sizes[k] = among(3) == 0 ? 1 : among(30) == 0 ? 0 : among(10) == 0 ? 3 : 2;
            many *= sizes[k];
        }
        int lane = among(8);
        long[] bits = new long[many];
        for (int k = 0; k < many; k++) {
            bits[k] = ArithmeticTest.randomBits(lane);
        }
        x.bind(n, Engine.grid(x, lane, sizes, bits));
        r.boundLane[n] = lane;
        r.boundSize[n] = sizes;
        r.boundCells[n] = bits;
    }

    private static String blank() {
        return among(5) == 0 ? " " : among(40) == 0 ? "\n" : "";
    }

    private static final String[][] NUMBERS = {
        {"true", "false"},
        {"0", "1", "2", "7", "31", "2147483647", "1L", "9223372036854775807L", "5L", "255", "3", "63L"},
        {"0.5", "1.25F", "3.0", "0.0", "100000000000000.0", "0.1F", "2", "7L", "0.001", "123456.789F"}
    };
    private static final String[] SPOILT_NUMBERS = {"2147483648", "1.", "1234567890123456.5", "9223372036854775808L", "1F", "1.5L"};

    /** The names and functions that a text may use. */
    private static final class Scope {
        final List<List<String>> names = List.of(new ArrayList<>(), new ArrayList<>(), new ArrayList<>());
        List<Reference.Function> functions = List.of();

        void add(String name, int lane) {
            if (lane == 0) {
                names.get(0).add(name);
            } else {
                names.get(2).add(name);
                if (lane < 6) {
                    names.get(1).add(name);
                }
            }
        }
    }

    private static String leaf(int kind, Scope scope) {
        List<String> names = scope.names.get(kind);
        if (among(60) == 0) {
            return SPOILT_NUMBERS[among(SPOILT_NUMBERS.length)];
        }
        if (among(60) == 0) {
            return "z";
        }
        if (names.isEmpty() || among(3) == 0) {
            return NUMBERS[kind][among(NUMBERS[kind].length)];
        }
        return names.get(among(names.size()));
    }

    /** A text that is likely to be well-formed, of a kind: 0 boolean, 1 whole, 2 any number. */
    private static String expression(int depth, int wanted, Scope scope) {
        int kind = among(100) == 0 ? among(3) : wanted;
        String text;
        int way = among(depth <= 0 ? 2 : 14);
        if (way < 2) {
            text = leaf(kind, scope);
        } else if (way < 8) {
            text = between(depth, kind, scope);
        } else if (way == 8) {
            text = (kind == 0 ? "!" : among(3) == 0 && kind == 1 ? "~" : "-") + blank() + "(" + expression(depth - 1, kind, scope) + ")";
        } else if (way == 9) {
            int lane = kind == 0 ? 0 : kind == 1 ? 1 + among(5) : 1 + among(7);
            text = "(" + blank() + Engine.LANES[lane] + ")" + blank() + "(" + expression(depth - 1, kind == 0 ? 0 : 2, scope) + ")";
        } else if (way == 10) {
            text = expression(depth - 1, 0, scope) + "?" + expression(depth - 1, kind, scope) + ":" + expression(depth - 1, kind, scope);
            text = among(8) == 0 ? text : "(" + text + ")";
        } else if (way == 11) {
            text = call(depth, kind, scope);
        } else {
            text = "(" + blank() + expression(depth - 1, kind, scope) + ")";
        }
        return blank() + text + blank();
    }

    private static String between(int depth, int kind, Scope scope) {
        if (kind == 0 && among(2) == 0) {
            return expression(depth - 1, 2, scope) + BINARY[5 + among(6)] + expression(depth - 1, 2, scope);
        }
        String op = kind == 0 ? BINARY[among(7)] : kind == 1 ? BINARY[among(3) == 0 ? 2 + among(3) : 11 + among(8)] : BINARY[14 + among(5)];
        return expression(depth - 1, kind, scope) + op + expression(depth - 1, kind, scope);
    }

    private static String call(int depth, int kind, Scope scope) {
        StringBuilder text = new StringBuilder();
        if (kind > 0 && (among(2) == 0 || scope.functions.isEmpty())) {
            boolean one = among(2) == 0;
            String name = one ? Reference.ONE.get(among(kind == 1 ? 4 : 8)) : Reference.TWO.get(among(kind == 1 ? 7 : 2));
            int many = (one ? 1 : 2) + (among(30) == 0 ? 1 : 0);
            text.append(name).append(blank()).append("(");
            for (int k = 0; k < many; k++) {
                text.append(k == 0 ? "" : ",").append(expression(depth - 2, kind, scope));
            }
            return text + ")";
        }
        if (scope.functions.isEmpty()) {
            return leaf(kind, scope);
        }
        Reference.Function f = scope.functions.get(among(scope.functions.size()));
        for (int tries = 0; tries < 10 && !Reference.fits(f.lane, kind == 0 ? 0 : kind == 1 ? 5 : 7); tries++) {
            f = scope.functions.get(among(scope.functions.size()));
        }
        text.append(f.name).append(blank()).append("(");
        for (int k = 0; k < f.lanes.size(); k++) {
            int lane = f.lanes.get(k);
            text.append(k == 0 ? "" : ",");
            if (lane > 0 && (lane < 4 || among(2) == 0)) {
                text.append("(").append(Engine.LANES[lane]).append(")");
            }
            text.append("(").append(expression(depth - 2, lane == 0 ? 0 : lane < 6 ? 1 : 2, scope)).append(")");
        }
        return text + ")";
    }

    private static String spoilt(String text) {
        StringBuilder b = new StringBuilder(text);
        for (int k = among(3); k >= 0 && b.length() > 0; k--) {
            int p = among(b.length());
            switch (among(4)) {
                case 0:
                    b.deleteCharAt(p);
                    break;
                case 1:
                    b.insert(p, "()?:+-*!~,;=<>&|^ aix1.LF$".charAt(among(26)));
                    break;
                case 2:
                    b.setCharAt(p, "()?:+-*!~,;=<>&|^ aix1.LF\u0080".charAt(among(26)));
                    break;
                default:
                    b.setLength(p);
                    break;
            }
        }
        return b.toString();
    }

    private static void formula(GridEngine x, Reference r, int round) {
        Scope scope = new Scope();
        for (int n = 0; n < 12; n++) {
            String name = String.valueOf((char) ('a' + n));
            if (n >= 8 || r.boundCells[n] != null) {
                scope.add(name, n >= 8 ? 4 : r.boundLane[n]);
            }
        }
        scope.functions = r.functions;
        String text = expression(1 + among(6), among(3), scope);
        if (among(5) == 0) {
            text = spoilt(text);
        }
        int want = r.formula(text);
        int got = Engine.formula(x, text);
        String call = "round " + round + " formula <" + text + ">";
        if (want == Reference.OK) {
            Due.due(call + " made", got > 0, true);
            Due.due(call + " lane", x.lane(got), r.lane);
            Due.due(call + " axes", x.axes(got), r.size.length);
            for (int k = 0; k < r.size.length; k++) {
                Due.due(call + " size", x.size(got, k), r.size[k]);
            }
            Due.due(call, Engine.cells(x, got), r.cells);
        } else {
            Due.due(call, got, want);
        }
        Due.due(call + " place", x.place(), r.place);
        Due.due(call + " steps", x.steps(), r.steps);
        for (int k = 0; k < 4; k++) {
            Due.due(call + " failed " + k, x.failed(k), r.failed == null || k >= r.failed.length ? -1 : r.failed[k]);
        }
    }

    private static void functions(GridEngine x, Reference r, int round) {
        StringBuilder all = new StringBuilder();
        for (int n = among(3); n >= 0; n--) {
            String[] names = {"a", "b", "x1", "y"};
            int many = 1 + among(among(4) == 0 ? 4 : 2);
            int kind = among(3);
            int lane = kind == 0 ? 0 : kind == 1 ? (among(3) == 0 ? 4 : 5) : (among(3) == 0 ? 6 : 7);
            all.append(Engine.LANES[lane]).append(" ").append("fgp".charAt(among(3))).append("(");
            Scope scope = new Scope();
            scope.functions = r.functions;
            for (int k = 0; k < many; k++) {
                String own = names[among(20) == 0 ? 0 : k];
                int parameter = among(8);
                scope.add(own, parameter);
                all.append(k == 0 ? "" : ", ").append(Engine.LANES[parameter]).append(" ").append(own);
            }
            all.append(") =").append(expression(among(5), kind, scope)).append(";").append(blank());
        }
        String text = among(8) == 0 ? spoilt(all.toString()) : all.toString();
        int want = r.functions(text);
        String call = "round " + round + " functions <" + text + ">";
        Due.due(call, Engine.functions(x, text), want);
        Due.due(call + " place", x.place(), r.place);
    }

    private static void choose(GridEngine x, Reference r) {
        int[] lanes = new int[1 + among(2)];
        for (int k = 0; k < lanes.length; k++) {
            lanes[k] = among(8);
        }
        String name = "fgp".substring(among(3)).substring(0, 1);
        Due.due("choose " + name, Engine.choose(x, name, lanes), r.choose(name, lanes));
    }
}
