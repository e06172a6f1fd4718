import java.nio.charset.StandardCharsets;
import java.util.Random;

/** Promises 15, 16, 23, 25 and 38: texts of random parts, most of them with a fault, against the model. */
final class RandomTextTest {
    private static final String[] VIEWS = "0 1 2 3 9 -1 - : : : , , * 1 2 10 999999999 1234567890 x :: ::-1 0: :2".split(" ");
    private static final String[] TABLES = {
        "a", "b", ",", ",", ",", "\n", "\n", "\n", "\"", "\"", "1", "2.5", "-", "true", "false", " ", "\"\"", "\"x\"", "-0.0", "3000000000", "c", "d", "\u0001",
        "\u0080", "abcdefghijabcdefghij"
    };
    private static final String[] EXPRESSIONS = {
        "a", "b", "c", "i", "j", "1", "2L", "0.5", "1.5F", "true", "false", "(", "(", ")", ")", "+", "-", "*", "/", "%", "<<", ">>", ">>>", "<", ">", "<=", ">=",
        "==", "!=", "&", "|", "^", "&&", "||", "!", "~", "?", ":", ",", "abs(", "min(", "f(", "g(", "(int)", "(byte)", "(double)", " ", "x", "y", ";", "=", "int ",
        "int f(int x)=", "long g(int x,int y)=", "boolean ", "$", "a+b", "i*2", "(a)", "f(1)", "1:2"
    };
    private static final String[] HEADS = {"int f(int x)=", "long g(int x,int y)=", "boolean h(boolean x)=", "double f(double x)="};

    private final Random random;
    private final GridEngine x = new GridEngine();
    private final Model m = new Model();
    private String call;

    private RandomTextTest(int seed) {
        random = new Random(seed);
    }

    public static void main(String[] args) {
        int runs = args.length > 0 ? Integer.parseInt(args[0]) : 1500;
        for (int seed = 0; seed < runs; seed++) {
            new RandomTextTest(seed).play();
        }
        Due.finish();
    }

    private int among(int n) {
        return random.nextInt(n);
    }

    private String parts(String[] some, int n) {
        StringBuilder text = new StringBuilder();
        for (int k = 0; k < n; k++) {
            text.append(some[among(some.length)]);
        }
        return text.toString();
    }

    private void axis(int n) {
        x.axis(n);
        m.axis(n);
    }

    private void play() {
        for (int k = among(4); k > 0; k--) {
            axis(1 + among(3));
        }
        same("grid", x.grid(4), m.grid(4));
        axis(2);
        same("grid", x.grid(7), m.grid(7));
        for (int n = 0; n < 2; n++) {
            same("bind", x.bind(n, n + 1), m.bind(n, n + 1));
        }
        for (int turn = 0; turn < 40; turn++) {
            switch (among(4)) {
                case 0:
                    feed("view", parts(VIEWS, among(8)));
                    grid(x.view(1), m.view(1));
                    break;
                case 1:
                    feed("table", (among(3) == 0 ? "" : among(2) == 0 ? "a,b\n" : "a\n") + parts(TABLES, among(16)) + (among(2) == 0 ? "\n" : ""));
                    table(x.table(), m.table());
                    break;
                case 2:
                    feed("formula", parts(EXPRESSIONS, 1 + among(9)));
                    grid(x.formula(), m.formula());
                    break;
                default:
                    feed("functions", (among(3) == 0 ? "" : parts(HEADS, 1)) + parts(EXPRESSIONS, 1 + among(5)) + (among(3) == 0 ? "" : ";"));
                    same("", x.functions(), m.functions());
                    break;
            }
            same("place", x.place(), m.place());
            same("steps", x.steps(), m.steps());
        }
    }

    private void same(String what, long got, long want) {
        Due.due(call + " " + what, got, want);
    }

    private void feed(String name, String text) {
        call = name + " <" + text + ">";
        byte[] b = text.getBytes(StandardCharsets.ISO_8859_1);
        for (int from = 0; from == 0 || from < b.length; from += 20) {
            int[] w = new int[5];
            for (int k = 0; k < 20; k++) {
                w[k / 4] = w[k / 4] << 8 | (from + k < b.length ? b[from + k] : '1') & 255;
            }
            same("feed", x.feed(w[0], w[1], w[2], w[3], w[4]), m.feed(w[0], w[1], w[2], w[3], w[4]));
        }
        same("end", x.end(b.length), m.end(b.length));
    }

    private void grid(int got, int want) {
        same("", got, want);
        if (want > 0) {
            same("lane", x.lane(got), m.lane(want));
            same("axes", x.axes(got), m.axes(want));
            same("cells", x.cells(got), m.cells(want));
            for (int n = 0; n < m.cells(want); n++) {
                same("cell", x.cell(got, n), m.cell(want, n));
            }
        }
    }

    private void table(int got, int want) {
        same("", got, want);
        if (want < 0) {
            return;
        }
        same("rows", x.rows(got), m.rows(want));
        for (int c = 0; c < 3; c++) {
            same("columnLane", x.columnLane(got, c), m.columnLane(want, c));
        }
        same("write", x.write(got), m.write(want));
        for (int i = 0; i <= m.written().length; i++) {
            same("out", x.out(i), m.out(i));
        }
        grid(x.column(got, 0), m.column(want, 0));
    }
}
