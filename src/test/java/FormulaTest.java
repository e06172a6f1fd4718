/** Promises 23 to 28: the edges that the document names. */
final class FormulaTest {
    private FormulaTest() {
    }

    public static void main(String[] args) {
        tokens();
        precedence();
        depth();
        height();
        fault2();
        functionTexts();
        choices();
        runs();
        steps();
        refusals();
        builtIns();
        manyFunctions();
        afterCrash();
        Due.finish();
    }

    private static void value(String text, int lane, long bits) {
        GridEngine x = new GridEngine();
        int g = Engine.formula(x, text);
        Due.due("formula <" + text + ">", g, 1);
        Due.due("lane <" + text + ">", x.lane(g), lane);
        Due.due("axes <" + text + ">", x.axes(g), 0);
        Due.due("cell <" + text + ">", x.cell(g, 0), bits);
        Due.due("place", x.place(), -1);
    }

    private static void fault(int which, String text, int place) {
        GridEngine x = new GridEngine();
        Due.due("formula <" + text + ">", Engine.formula(x, text), -20 - which);
        Due.due("place <" + text + ">", x.place(), place);
        Due.due("no grid", x.lane(1), -14);
    }

    private static void tokens() {
        value("2147483647", 4, Integer.MAX_VALUE);
        value("0002147483647", 4, Integer.MAX_VALUE);
        value("9223372036854775807L", 5, Long.MAX_VALUE);
        value("0000000000000000000000000000001L", 5, 1);
        value("0.1", 7, Engine.bits(0.1));
        value("12345678901234.5", 7, Engine.bits(12345678901234.5));
        value("0.10000000000001", 7, Engine.bits(0.10000000000001));
        value("0.1F", 6, Engine.bits(0.1f));
        value("16777217.0F", 6, Engine.bits(16777216f));
        value("true", 0, 1);
        value("false", 0, 0);
        value("\t1\r\n", 4, 1);
        value("i", 4, 0);
        value("l", 4, 0);
        fault(1, "2147483648", 0);
        fault(1, " 1 + 2147483648", 5);
        fault(1, "9223372036854775808L", 0);
        fault(1, "99999999999999999999999999L", 0);
        fault(1, "1.", 1);
        fault(1, ".5", 0);
        fault(1, "1.5L", 3);
        fault(1, "1F", 1);
        fault(1, "1x", 1);
        fault(1, "1234567890123.456", 0);
        fault(1, "0.1234567890123456", 0);
        fault(1, "abcdefghijklm", 0);
        fault(2, "abcdefghijkl", 0);
        fault(1, "A", 0);
        fault(1, "1 $ 2", 2);
        fault(1, "1 \u0000", 2);
        fault(1, "1 \u00ff", 2);
        fault(1, "", 0);
        fault(1, "   ", 3);
        fault(1, "1 2", 2);
        fault(1, "1 +", 3);
        fault(1, "1 + ", 4);
        fault(1, "(1", 2);
        fault(1, "1)", 1);
        fault(1, "()", 1);
        fault(1, "int", 0);
        fault(1, "(int)", 5);
        fault(1, "(int 1)", 5);
        fault(1, "abs()", 4);
        fault(1, "abs(1,)", 6);
        fault(1, "abs(1", 5);
        fault(1, "1, 2", 1);
        fault(1, "true ? 1", 8);
        fault(1, "true ? 1 ; 2", 9);
        fault(1, "1 : 2", 2);
        fault(1, "(true ? 1) : 2", 9);
        fault(1, "abs(true ? 1, 2)", 12);
        fault(1, "1 = 2", 2);
        fault(1, "1 === 1", 4);
        fault(1, "1;", 1);
        fault(1, "+1", 0);
        fault(1, "1 <<< 1", 4);
        value("1 - -1", 4, 2);
        value("1--1", 4, 2);
        value("1<-1", 0, 0);
        value("-8>>>28", 4, 15);
        value("!!true", 0, 1);
        value("true&&!false", 0, 1);
        value("(int)-1.9", 4, -1);
        value("(int)(long)7.5", 4, 7);
        value("(byte)200", 1, -56);
        value("(boolean)true", 0, 1);
        value("abs(-3)+1", 4, 4);
    }

    private static void precedence() {
        value("1 + 2 * 3", 4, 7);
        value("10 - 4 - 3", 4, 3);
        value("100 / 10 / 5 * 2 % 3", 4, 1);
        value("1 << 2 + 1", 4, 8);
        value("1 + 1 < 3 == true", 0, 1);
        value("true & 3 == 3 ? 1 : 2", 4, 1);
        value("1 | 6 ^ 3 & 2", 4, 1 | 6 ^ 3 & 2);
        value("false && false || true", 0, 1);
        value("true || false && false", 0, 1);
        value("true || true ^ true", 0, 1);
        value("true ? 1 : false ? 2 : 3", 4, 1);
        value("false ? 1 : false ? 2 : 3", 4, 3);
        value("true ? false ? 1 : 2 : 3", 4, 2);
        value("-2 * -3", 4, 6);
        value("~1 + 1", 4, -1);
        value("- - 5", 4, 5);
        value("(1 + 2) * 3", 4, 9);
        value("(long) 2147483647 + 1", 5, 2147483648L);
        value("(long) (2147483647 + 1)", 5, Integer.MIN_VALUE);
        value("1 < 2 != 3 < 4", 0, 0);
        value("-1 >>> 1 >> 1", 4, -1 >>> 1 >> 1);
    }

    private static String many(String part, int n) {
        return part.repeat(n);
    }

    private static void depth() {
        value(many("(", 24) + "1" + many(")", 24), 4, 1);
        fault(1, many("(", 25) + "1" + many(")", 25), 25);
        fault(1, many("(", 30), 25);
        fault(1, many("(", 25), 25);
        value(many("-", 24) + "1", 4, 1);
        fault(1, many("-", 25) + "1", 25);
        fault(1, many("-", 25), 25);
        value(many("(int)", 24) + "1", 4, 1);
        fault(1, many("(int)", 25) + "1", 24 * 5 + 1);
        fault(1, many("-", 24) + "(int)1", 25);
        value(many("-", 24) + "1 + 1", 4, 2);
        value(many("true ? 1 : ", 24) + "1", 4, 1);
        fault(1, many("true ? 1 : ", 25) + "1", 24 * 11 + 7);
        value(many("true ? ", 24) + "1" + many(" : 2", 24), 4, 1);
        fault(1, many("true ? ", 25) + "1" + many(" : 2", 25), 25 * 7);
        value(many("abs(", 24) + "1" + many(")", 24), 4, 1);
        fault(1, many("abs(", 25) + "1" + many(")", 25), 100);
        value(many("(", 23) + "-1 + 1" + many(")", 23), 4, 0);
        // All levels of operators, open at every depth at once.
        String all = "true||true&&true|false^true&true==1<2<<1+1*(int)1";
        value(all, 0, 1);
        String deep = "1";
        for (int k = 0; k < 12; k++) {
            deep = "1|1^1&(1==1?1:0)+1*(" + deep + ")";
        }
        fault(2, deep, 0);
    }

    private static void height() {
        value("1" + many("+1", 29), 4, 30);
        fault(2, "  1" + many("+1", 30), 2);
        fault(2, "zz" + many("+1", 30), 0);
        fault(2, "1+zz+" + "1" + many("+1", 30), 0);
        fault(1, "1" + many("+1", 30) + "+", 62);
        // Parentheses have no height of their own.
        value(many("(", 20) + "1" + many(")", 20) + many("+1", 29), 4, 30);
        fault(2, "1*2-(-1" + many("+1", 29) + ")", 0);
        GridEngine x = new GridEngine();
        Due.due("a function's height", Engine.functions(x, "int f(int x) = x; int gg(int x) = 1" + many("+1", 30) + ";"), -22);
        Due.due("place", x.place(), 22);
        Due.due("height comes before the body", Engine.functions(x, "int gg(int x) = y" + many("+1", 30) + ";"), -22);
        Due.due("place", x.place(), 4);
        Due.due("30 high", Engine.functions(x, "int gg(int x) = 1" + many("+x", 29) + ";"), 1);
    }

    private static void fault2() {
        fault(2, "a", 0);
        fault(2, "1 + m", 4);
        fault(2, "ii", 0);
        fault(2, "1 + true", 2);
        fault(2, "true + m", 7);
        fault(2, "true + 1 + m", 5);
        fault(2, "m + (true + 1)", 0);
        fault(2, "1 && true", 2);
        fault(2, "true && 1", 5);
        fault(2, "true < false", 5);
        fault(2, "true == 1", 5);
        fault(2, "1.0 & 1", 4);
        fault(2, "1 | true", 2);
        fault(2, "1.0 << 1", 4);
        fault(2, "1 << 1.0", 2);
        fault(2, "~1.0", 0);
        fault(2, "!1", 0);
        fault(2, "-true", 0);
        fault(2, "1 + (int) true", 4);
        fault(2, "(boolean) 1", 0);
        fault(2, "(boolean) (true + 1)", 16);
        fault(2, "1 ? 2 : 3", 2);
        fault(2, "true ? 2 : false", 5);
        fault(2, "true ? m : n", 7);
        fault(2, "m ? n : o", 0);
        fault(2, "q(m)", 2);
        fault(2, "q(1)", 0);
        fault(2, "1 + abs(true)", 4);
        fault(2, "abs(1, 2)", 0);
        fault(2, "min(1)", 0);
        fault(2, "floordiv(1.0, 2)", 0);
        fault(2, "bits(1.5)", 0);
        fault(2, "addexact(1, true)", 0);
        fault(2, "sqrt(false)", 0);
        fault(2, "q(1, 2, 3, 4, 5, 6, 7, 8)", 0);
        fault(2, "i(1)", 0);
        fault(2, "abs", 0);
        GridEngine x = new GridEngine();
        x.bind(0, x.grid(0));
        Due.due("a grid of booleans", Engine.formula(x, "!a"), 2);
        Due.due("a + 1", Engine.formula(x, "a + 1"), -22);
        Due.due("place", x.place(), 2);
        x.bind(0, 0);
        Due.due("unbound", Engine.formula(x, "!a"), -22);
        Due.due("place", x.place(), 1);
        Due.due("failed", x.failed(0), -1);
    }

    private static void functionTexts() {
        GridEngine x = new GridEngine();
        Due.due("none", Engine.functions(x, ""), 0);
        Due.due("blanks", Engine.functions(x, " \n"), 0);
        Due.due("one", Engine.functions(x, "int f(int x) = x * 2;"), 1);
        Due.due("two more", Engine.functions(x, "long f(long x)=x;double half(double x)=x/2.0;"), 3);
        check(x, 1, "int", 3);
        check(x, 1, "int g", 5);
        check(x, 1, "f(int x) = x;", 0);
        check(x, 1, "int int(int x) = x;", 4);
        check(x, 1, "int g() = 1;", 6);
        check(x, 1, "int g(x) = 1;", 6);
        check(x, 1, "int g(int) = 1;", 9);
        check(x, 1, "int g(int x,) = 1;", 12);
        check(x, 1, "int g(int x) 1;", 13);
        check(x, 1, "int g(int x) = ;", 15);
        check(x, 1, "int g(int x) = 1", 16);
        check(x, 1, "int g(int x) = 1; 2", 18);
        check(x, 1, "int g(int x) = (1;", 17);
        check(x, 1, "int g(int x) == 1;", 13);
        check(x, 1, "int g(int true) = 1;", 10);
        check(x, 1, "int g(int a,int b,int c,int d,int e,int f,int g) = 1;", 42);
        check(x, 1, "int g(int a,int b,int c,int d,int e,int f,) = 1;", 42);
        check(x, 2, "int g(int x) = y;", 15);
        check(x, 2, "int g(int x) = i;", 15);
        check(x, 2, "int g(int x) = a;", 15);
        check(x, 2, "int g(int x, int x) = 1;", 17);
        check(x, 2, "int g(int x, int y, byte y, int x) = 1;", 25);
        check(x, 2, "int f(int y) = 1;", 4);
        check(x, 2, "int f(int y, int y) = 1;", 17);
        check(x, 2, "int g(int y) = 1; long g(int z) = 2;", 23);
        check(x, 2, "int abs(int x, int y, int y) = 1;", 4);
        check(x, 2, "double round(long x) = 1.0;", 7);
        check(x, 2, "int g(long x) = x;", 4);
        check(x, 2, "int g(long x) = x + z;", 20);
        check(x, 2, "boolean g(long x) = 1;", 8);
        check(x, 2, "byte g(int x) = 1;", 5);
        check(x, 2, "char g(byte x) = x;", 5);
        check(x, 2, "int g(int x) = g(x);", 15);
        check(x, 2, "int g(int x) = h(x); int h(int x) = x;", 15);
        check(x, 2, "int g(int x) = x; int h(int x) = x + true; int h(int x) = x;", 35);
        Due.due("of a text with a fault none is there", Engine.formula(x, "g(1)"), -22);
        GridEngine first = new GridEngine();
        check(first, 2, "int g(int x) = g(x);", 15);
        check(first, 2, "int g(int x) = h(x); int h(int x) = x;", 15);
        Due.due("letters and digits of names", Engine.functions(first, "int aAZ09z(int zZ9A0) = zZ9A0 + 1;"), 1);
        Due.due("aAZ09z", first.cell(Engine.formula(first, "aAZ09z(4)"), 0), 5);
        check(first, 1, "int a_b(int x) = x;", 5);
        check(first, 1, "int a@(int x) = x;", 5);
        check(first, 1, "int a[(int x) = x;", 5);
        Due.due("six parameters", Engine.functions(first, "long six(int a, long b, short c, byte d, char e, int f) = a + 10 * b + 100 * c + 1000 * d + 10000 * e + 100000 * f;"), 2);
        Due.due("six", first.cell(Engine.formula(first, "six(1, 2, (byte) 3, (byte) 4, (char) 5, 6)"), 0), 654321);
        Due.due("seven arguments", Engine.formula(first, "six(1, 2, (byte) 3, (byte) 4, (char) 5, 6, 7)"), -22);
        Due.due("a fitting body", Engine.functions(x, "short g(byte x) = x; float g(char x) = x; int h(int a, int b) = g((byte) a) + f(b);"), 6);
        Due.due("h", x.cell(Engine.formula(x, "h(300, 4)"), 0), 52);
        Due.due("a function in another text with other lanes", Engine.functions(x, "int f(int x, int y) = f(x) + y;"), 7);
        Due.due("f(1, 2)", x.cell(Engine.formula(x, "f(1, 2)"), 0), 4);
        Due.due("the function's lane", x.lane(Engine.formula(x, "g((char) 65)")), 6);
        Due.due("widened", x.cell(Engine.formula(x, "half(3)"), 0), Engine.bits(1.5));
        String big = "int q(int x) = 1;" + " ".repeat(4000 - 17);
        Due.due("4000 bytes", Engine.functions(x, big), 8);
        check(x, 1, "int r(int x) = 1;" + " ".repeat(4000 - 16), 4000);
        check(x, 1, "$" + " ".repeat(4000), 4000);
        Due.due("formula of 4001 bytes", Engine.formula(x, "1" + " ".repeat(4000)), -21);
        Due.due("place", x.place(), 4000);
        Due.due("formula of 4000 bytes", Engine.formula(x, "1" + " ".repeat(3999)) > 0, true);
        Due.due("4000 tokens", Engine.formula(x, many("1+", 2000)), -21);
        Due.due("place", x.place(), 4000);
        Due.due("3999 tokens", Engine.formula(x, "1" + many("+1", 1999)), -22);
        Due.due("place", x.place(), 0);
        Due.due("1998 arguments", Engine.formula(x, "1+w(1" + many(",1", 1996) + ")"), -22);
        Due.due("place", x.place(), 2);
        Due.due("a choice 24 deep, three instructions for each two bytes", Engine.formula(x, many("true?1:", 24) + "1") > 0, true);
    }

    private static void check(GridEngine x, int which, String text, int place) {
        Due.due("functions <" + text + ">", Engine.functions(x, text), -20 - which);
        Due.due("place <" + text + ">", x.place(), place);
    }

    private static void choices() {
        GridEngine x = new GridEngine();
        Engine.functions(x, "int f(int x) = 1; int f(long x) = 2; int f(double x) = 3; int f(boolean b) = 4; int f(char c) = 5;"
            + "int g(int x, long y) = 1; int g(long x, int y) = 2; int h(byte x, byte y, byte z, byte w) = 1;");
        int[] want = {3, 0, 0, 4, 0, 1, 2, 2};
        for (int lane = 0; lane < 8; lane++) {
            Due.due("choose f " + lane, Engine.choose(x, "f", lane), want[lane]);
        }
        Due.due("g int int", Engine.choose(x, "g", 4, 4), -16);
        Due.due("g int long", Engine.choose(x, "g", 4, 5), 5);
        Due.due("g long int", Engine.choose(x, "g", 5, 4), 6);
        Due.due("g long long", Engine.choose(x, "g", 5, 5), -15);
        Due.due("g one", Engine.choose(x, "g", 4), -15);
        Due.due("h", Engine.choose(x, "h", 1, 1, 1, 1), 7);
        Due.due("h", Engine.choose(x, "h", 1, 1, 1, 2), -15);
        Due.due("no such name", Engine.choose(x, "q", 4), -15);
        Due.due("a built-in one", Engine.choose(x, "abs", 4), -15);
        Due.due("no name", Engine.choose(x, "", 4), -15);
        Due.due("a blank", Engine.choose(x, "f ", 4), -15);
        Due.due("no lane 8", Engine.choose(x, "f", 4, 8), -14);
        Due.due("no lanes", Engine.choose(x, "f"), -14);
        Due.due("tray and sizes are used up", x.axis(4), 1);
        Due.due("tray", x.choose(), -15);
        Due.due("g(1, 2)", Engine.formula(x, "1 + g(1, 2)"), -22);
        Due.due("place", x.place(), 4);
        Engine.functions(x, "int g(int x, int y) = 3;");
        Due.due("now it is clear", x.cell(Engine.formula(x, "g(1, 2)"), 0), 3);
        x.axis(4);
        x.crash(0);
        x.axis(4);
        Engine.feed(x, "f");
        Due.due("choose, closed", x.choose(), -13);
        Due.due("axis was used up", x.axis(4), 1);
        x.reopen();
        Due.due("functions are lost", x.choose(), -15);
    }

    private static void runs() {
        GridEngine x = new GridEngine();
        int a = Engine.grid(x, 4, new int[] {2, 1}, 10, 20);
        int b = Engine.grid(x, 4, new int[] {3}, 1, 2, 3);
        x.bind(0, a);
        x.bind(1, b);
        int r = Engine.formula(x, "a + b");
        Due.due("shape", Engine.shape(x, r), "2x3");
        Due.due("cells", Engine.cells(x, r), 11, 12, 13, 21, 22, 23);
        Due.due("i and j", Engine.cells(x, Engine.formula(x, "a * 0 + b * 0 + 10 * j + i")), 0, 1, 2, 10, 11, 12);
        Due.due("k and l", Engine.cells(x, Engine.formula(x, "b * 0 + k + l + j")), 0, 0, 0);
        Due.due("all grids in the text join", Engine.shape(x, Engine.formula(x, "true ? b : a")), "2x3");
        int c = Engine.grid(x, 4, new int[] {2}, 1, 0);
        x.bind(2, c);
        Due.due("unlike sizes", Engine.formula(x, "b + c"), -3);
        Due.due("steps", x.steps(), 0);
        Due.due("unlike sizes, not worked out", Engine.formula(x, "true ? b : c"), -3);
        Due.due("fails", Engine.formula(x, "a / (c + 0 * i)"), -8);
        Due.due("failed 0", x.failed(0), 0);
        Due.due("failed 1", x.failed(1), 1);
        Due.due("failed 2", x.failed(2), -1);
        Due.due("failed -1", x.failed(-1), -1);
        Due.due("fails not where it is not worked out", Engine.cells(x, Engine.formula(x, "c != 0 ? 6 / c : -1")), 6, -1);
        Due.due("failed", x.failed(0), -1);
        Due.due("&&", Engine.cells(x, Engine.formula(x, "c != 0 && 6 / c > 0")), 1, 0);
        Due.due("||", Engine.cells(x, Engine.formula(x, "c == 0 || 6 / c > 7")), 0, 1);
        int z = Engine.grid(x, 4, new int[] {0});
        x.bind(3, z);
        int none = Engine.formula(x, "d / 0 + a");
        Due.due("no cells", Engine.shape(x, none), "2x0");
        Due.due("steps", x.steps(), 0);
        int view = Engine.view(x, b, "::-1");
        x.bind(1, view);
        Due.due("a view", Engine.cells(x, Engine.formula(x, "b")), 3, 2, 1);
        x.bind(4, Engine.grid(x, 4, new int[] {4096, 1}));
        x.bind(5, Engine.grid(x, 4, new int[] {1, 4096}));
        Due.due("too many cells", Engine.formula(x, "e / 0 + f"), -12);
        Due.due("steps", x.steps(), 0);
        Engine.formula(x, "1 +");
        Due.due("refused otherwise", Engine.formula(x, "1 / 0"), -8);
        Due.due("the place of the latest that was not", x.place(), 3);
        GridEngine y = new GridEngine();
        int single = y.grid(4);
        y.axis(250);
        y.axis(400);
        y.bind(0, y.spread(single));
        Due.due("100000 cells are worked out", Engine.formula(y, "j == 249 && i == 399 ? 1 / a : 1"), -8);
        Due.due("failed(0)", y.failed(0), 249);
        Due.due("failed(1)", y.failed(1), 399);
        Due.due("steps", y.steps(), 3 * 100000 + 400 + 1);
        Due.due("bind(8)", x.bind(8, 1), -2);
        Due.due("bind(-1)", x.bind(-1, 1), -2);
        Due.due("bind of none", x.bind(8, 99), -14);
        Due.due("bind of -1", x.bind(0, -1), -14);
        Due.due("bind(7)", x.bind(7, b), 0);
        Due.due("unbind(7)", x.bind(7, 0), 0);
        Due.due("unbind(8)", x.bind(8, 0), -2);
    }

    private static void steps() {
        GridEngine x = new GridEngine();
        x.bind(0, Engine.ints(x, 0, 1, 2));
        String[] texts = {"a", "a + 1", "-a", "(long) a", "a > 0 ? a : -a", "a > 0 && a > 1", "a > 0 || a > 1", "abs(a)", "min(a, a + 1)", "(a)", "a * a + a", "!(a == 0)"};
        int[] want = {0, 3, 3, 3, 7, 8, 7, 3, 6, 0, 6, 6};
        for (int k = 0; k < texts.length; k++) {
            Engine.formula(x, texts[k]);
            Due.due("steps of " + texts[k], x.steps(), want[k]);
        }
        Engine.functions(x, "int f(int x) = x + 1; int g(int x) = f(f(x)) * 2;");
        Engine.formula(x, "g(a)");
        Due.due("steps of g(a)", x.steps(), 3 * 6);
        Engine.formula(x, "a +");
        Due.due("a fault leaves the steps", x.steps(), 18);
        Engine.formula(x, "6 / (a - 1)");
        Due.due("a step is counted, then it fails", x.steps(), 4);
        Engine.functions(x, doubling(21));
        Engine.formula(x, "d10(a)");
        // Of each cell 2^11 - 1 calls, and a + in all but the 2^10 innermost ones.
        Due.due("steps of d10(a)", x.steps(), 3 * (2047 + 1023));
        Due.due("too many", Engine.formula(x, "d20(a)"), -10);
        Due.due("failed", x.failed(0), 0);
        Due.due("steps", x.steps(), 400000);
        GridEngine y = new GridEngine();
        int g = Engine.grid(y, 1, new int[] {400, 200});
        y.bind(0, g);
        Due.due("400000 steps, then no room", Engine.formula(y, "a + a + a + a + a + a"), -12);
        Due.due("steps", y.steps(), 400000);
        Due.due("failed", y.failed(0), -1);
        Due.due("one step too many", Engine.formula(y, "a + a + a + a + (j == 399 && i == 199 ? a + a : a)"), -10);
        Due.due("steps", y.steps(), 400000);
        Due.due("failed(1)", y.failed(1) >= 0, true);
        y.bind(1, y.grid(0));
        Due.due("400000 and not one more", Engine.formula(y, "a + a + a + a + a + a"), -12);
        Due.due("the last cell's last step", Engine.formula(y, "a + a + a + a + (b ? a : a) + a"), -10);
        Due.due("failed(0)", y.failed(0), 333);
        Due.due("failed(1)", y.failed(1), 66);
    }

    private static String doubling(int n) {
        StringBuilder text = new StringBuilder("int d0(int x) = x;");
        for (int k = 1; k <= n; k++) {
            text.append("int d").append(k).append("(int x) = d").append(k - 1).append("(x) + d").append(k - 1).append("(x);");
        }
        return text.toString();
    }

    private static void refusals() {
        GridEngine x = new GridEngine();
        int g = Engine.grid(x, 4, new int[] {300, 300});
        x.bind(0, g);
        Due.due("8 before 12", Engine.formula(x, "1 / a"), -8);
        Due.due("12", Engine.formula(x, "a"), -12);
        Due.due("steps", x.steps(), 0);
        GridEngine y = new GridEngine();
        for (int n = 0; n < 400; n++) {
            y.grid(1);
        }
        Due.due("no more grids", Engine.formula(y, "1 + 1"), -12);
        Due.due("steps", y.steps(), 1);
        Due.due("fails first", Engine.formula(y, "1 / 0"), -8);
        Due.due("failed(0): no axes", y.failed(0), -1);
        y.crash(0);
        Engine.feed(y, "1");
        Due.due("formula, closed", y.formula(), -13);
        Due.due("functions, closed", y.functions(), -13);
        Due.due("bind, closed", y.bind(0, 77), -13);
        y.reopen();
        Due.due("the tray stayed", y.formula(), -12);
    }

    private static void builtIns() {
        value("abs(-2147483647 - 1)", 4, Integer.MIN_VALUE);
        value("abs(-0.0)", 7, 0);
        value("sign(-0.0F)", 6, 0);
        value("sign(-2.5)", 7, Engine.bits(-1.0));
        value("sign((byte) 100)", 4, 1);
        value("min(0.0, -0.0)", 7, Long.MIN_VALUE);
        value("max(-0.0, 0.0)", 7, 0);
        value("max((byte) 1, (short) 2)", 4, 2);
        value("floordiv(-7, 2)", 4, -4);
        value("floormod(-7, 2L)", 5, 1);
        value("floordiv(-2147483647 - 1, -1)", 4, Integer.MIN_VALUE);
        value("floormod(-2147483647 - 1, -1)", 4, 0);
        value("floordiv(-9223372036854775807L - 1L, -1L)", 5, Long.MIN_VALUE);
        value("bits((byte) -1)", 4, 32);
        value("bits(-1L)", 5, 64);
        value("high(0)", 4, -1);
        value("high(0L)", 5, -1);
        value("high(-1)", 4, 31);
        value("high(-1L)", 5, 63);
        value("high((char) 65535)", 4, 15);
        value("sqrt(2)", 7, Engine.bits(Math.sqrt(2)));
        value("sqrt(-0.0)", 7, Long.MIN_VALUE);
        value("ceil(-0.5)", 7, Long.MIN_VALUE);
        value("round(-0.5)", 7, Long.MIN_VALUE);
        value("round(2.5)", 7, Engine.bits(2.0));
        value("round(3.5)", 7, Engine.bits(4.0));
        value("floor(-0.5F)", 7, Engine.bits(-1.0));
        value("1.0 / 0.0", 7, Engine.bits(Double.POSITIVE_INFINITY));
        value("-1.0F / 0.0F", 6, Engine.bits(Float.NEGATIVE_INFINITY));
        value("-5 / 2", 4, -2);
        value("-5 % 2", 4, -1);
        value("-5.5 % 2.0", 7, Engine.bits(-1.5));
        value("1 << 33", 4, 2);
        value("1L << 33", 5, 1L << 33);
        value("1 << 33L", 4, 2);
        value("(byte) -1 >>> 28", 4, 15);
        value("true ? (byte) 1 : (byte) 2", 1, 1);
        value("true ? (byte) 1 : (short) 2", 4, 1);
        value("false ? 1 : 2.5F", 6, Engine.bits(2.5f));
        value("true ? 1L : 2.5F", 6, Engine.bits(1f));
        value("2147483647 == 2147483647.0F", 0, 1);
        value("(char) 65 + (char) 1", 4, 66);
        for (String text : new String[] {"1 / 0", "1L % 0", "0.0 / 0.0", "1.0 % 0.0", "1.0 / 0.0 - 1.0 / 0.0", "0.0 * (1.0 / 0.0)", "sqrt(-1)", "floordiv(1, 0)", "floormod(1, 0L)",
            "addexact(2147483647, 1)", "subexact(-2147483647, 2)", "mulexact(65536, 65536)", "mulexact(-1L, -9223372036854775807L - 1L)", "addexact(9223372036854775807L, 1)"}) {
            GridEngine x = new GridEngine();
            Due.due(text, Engine.formula(x, text), -8);
            Due.due("no place", x.place(), -1);
        }
        value("addexact(2147483647, 1L)", 5, 2147483648L);
        value("mulexact(-1, 2147483647)", 4, -Integer.MAX_VALUE);
    }

    private static void manyFunctions() {
        GridEngine x = new GridEngine();
        StringBuilder text = new StringBuilder();
        for (int k = 0; k < 40; k++) {
            text.append("int f").append(k).append("(int x) = ").append(k == 0 ? "x" : "f" + (k - 1) + "(x) + 1").append(";");
        }
        Due.due("one too many", Engine.functions(x, text + " int g(int x) = $"), -21);
        Due.due("place", x.place(), text.length() + 1);
        Due.due("40 functions", Engine.functions(x, text.toString()), 40);
        Due.due("f39", x.cell(Engine.formula(x, "f39(2)"), 0), 41);
        Due.due("a 41st", Engine.functions(x, "  int g(int x) = 1;"), -21);
        Due.due("place", x.place(), 2);
        Due.due("none more", Engine.functions(x, "  "), 40);
        x.crash(0);
        x.reopen();
        Due.due("those that were lost count", Engine.functions(x, "int g(int x) = 1;"), -21);
        Due.due("none are there", Engine.functions(x, ""), 0);
    }

    private static void afterCrash() {
        GridEngine x = new GridEngine();
        x.bind(0, Engine.ints(x, 1, 2));
        Engine.functions(x, "int f(int x) = 1; int g(int x) = 2;");
        Engine.formula(x, "f(a) / (a - 1)");
        Due.due("steps", x.steps(), 3);
        x.crash(0);
        Due.due("steps", x.steps(), 0);
        Due.due("failed", x.failed(0), -1);
        x.reopen();
        Due.due("unbound", Engine.formula(x, "a"), -22);
        Due.due("one function", Engine.functions(x, "int g(int x) = 3;"), 1);
        Due.due("g", Engine.choose(x, "g", 4), 0);
        Due.due("f", Engine.choose(x, "f", 4), -15);
        Due.due("a new grid's number goes on", Engine.formula(x, "g(1)"), 2);
    }
}
