/**
 * Term 3 and promises 23 to 28: the bounds of tokens, texts, depths, heights, parameters, functions, steps and
 * shapes, wrap-arounds, and the edges of the operators and built-in functions.
 */
final class FormulaBoundsTest {
    private static final double INF = Double.POSITIVE_INFINITY;

    private FormulaBoundsTest() {
    }

    public static void main(String[] args) {
        namesHaveAtMost12Letters();
        intsAndLongsEndAtTheirGreatest();
        doublesHaveAtMost15Digits();
        bytesOutsideTheTextAreNoTokens();
        theLongestTokenIsTaken();
        parametersAre1To6();
        functionsAreAtMost40ForLife();
        textsHaveAtMost4000Bytes();
        depthIs25AtMost();
        whatIsClosedIsNoDeeper();
        digitsBehindThePoint();
        argumentsAreWidenedOneByOne();
        heightIs30AtMost();
        fault1ComesBeforeFault2();
        fault2InTheOrderOfTheText();
        headsBeforeBodies();
        namesMeanOperandsAndPlaces();
        bindTakes0To7();
        theWiderLane();
        wholeNumbersWrap();
        divisionBy0Fails();
        shiftsTakeTheLowestBits();
        rightSidesAreWorkedOutOnlyIfTheyDecide();
        comparisonsOfZeros();
        builtInsAtTheirEdges();
        exactBuiltInsAtTheirEdges();
        rootsAndRoundings();
        choiceOfFunctions();
        chooseTakesOneToFourLanes();
        shapesAreJoinedFromTheLastAxis();
        resultsHaveAtMost100000Cells();
        theFirstCellThatFailsIsTold();
        stepsAreAtMost400000();
        stepsOfRefusedFormulas();
        failedOfRefusedFormulas();
        placeOfTheLatestThatWasNotRefusedOtherwise();
        Due.finish();
    }

    private static String many(String part, int n) {
        return part.repeat(n);
    }

    private static void value(String text, int lane, long bits) {
        GridEngine x = new GridEngine();
        int g = Engine.formula(x, text);
        Due.due("formula <" + text + ">", g, 1);
        Due.due("lane of <" + text + ">", x.lane(g), lane);
        Due.due("axes of <" + text + ">", x.axes(g), 0);
        Due.due("cell of <" + text + ">", x.cell(g, 0), bits);
        Due.due("place()", x.place(), -1);
    }

    private static void fails(String text) {
        GridEngine x = new GridEngine();
        Due.due("formula <" + text + ">", Engine.formula(x, text), -8);
        Due.due("no grid", x.lane(1), -14);
    }

    private static void fault(int which, String text, int place) {
        GridEngine x = new GridEngine();
        Due.due("formula <" + text + ">", Engine.formula(x, text), -20 - which);
        Due.due("place of <" + text + ">", x.place(), place);
        Due.due("no grid", x.lane(1), -14);
        Due.due("the tray is used up", x.end(1), -1);
    }

    private static void functionFault(GridEngine x, int which, String text, int place) {
        int before = Engine.functions(x, "");
        Due.due("functions <" + text + ">", Engine.functions(x, text), -20 - which);
        Due.due("place of <" + text + ">", x.place(), place);
        Due.due("as many are there as before", Engine.functions(x, ""), before);
        Due.due("place()", x.place(), -1);
    }

    private static void namesHaveAtMost12Letters() {
        GridEngine x = new GridEngine();
        Due.due("12 letters", Engine.functions(x, "int abcdefghijkl(int abcdefghijkZ) = abcdefghijkZ + 1;"), 1);
        Due.due("call", x.cell(Engine.formula(x, "abcdefghijkl(4)"), 0), 5);
        functionFault(x, 1, "int abcdefghijklm(int x) = x;", 4);
        functionFault(x, 1, "int g(int abcdefghijklm) = 1;", 10);
        functionFault(x, 1, "int g(int x) = abcdefghijklm;", 15);
        Due.due("choose", Engine.choose(x, "abcdefghijkl", 4), 0);
        Due.due("choose a longer one", Engine.choose(x, "abcdefghijklm", 4), -15);
        Due.due("choose a shorter one", Engine.choose(x, "abcdefghijk", 4), -15);
        fault(2, "a23456789012", 0);
        fault(1, "a234567890123", 0);
        fault(1, "A", 0);
        fault(1, "_a", 0);
        fault(2, "aA0zZ9", 0);
        // A word that only begins like a lane's is a name.
        fault(2, "inte", 0);
        fault(2, "truee", 0);
        fault(1, "booleanbyteshort", 0);
    }

    private static void intsAndLongsEndAtTheirGreatest() {
        value("2147483647", 4, 2147483647);
        fault(1, "2147483648", 0);
        fault(1, "1+ 2147483648", 3);
        fault(1, "-2147483648", 1);
        value("-2147483647-1", 4, Integer.MIN_VALUE);
        value("2147483648L", 5, 2147483648L);
        value("9223372036854775807L", 5, Long.MAX_VALUE);
        fault(1, "9223372036854775808L", 0);
        fault(1, "18446744073709551616L", 0);
        fault(1, "18446744073709551617", 0);
        fault(1, many("9", 400) + "L", 0);
        value(many("0", 400) + "7L", 5, 7);
        value(many("0", 400) + "7", 4, 7);
        value("0", 4, 0);
        value("0L", 5, 0);
        fault(1, "1l", 1);
    }

    private static void doublesHaveAtMost15Digits() {
        value("123456789012345.0".substring(1), 7, Engine.bits(23456789012345.0));
        value("0.12345678901234", 7, Engine.bits(0.12345678901234));
        fault(1, "0.123456789012345", 0);
        value("99999999999999.9", 7, Engine.bits(99999999999999.9));
        fault(1, "999999999999999.9", 0);
        fault(1, "000000000000001.0", 0);
        value("0000000000001.0", 7, Engine.bits(1.0));
        value("0.00000000000001", 7, Engine.bits(0.00000000000001));
        value("0.1F", 6, Engine.bits(0.1f));
        value("99999999999999.9F", 6, Engine.bits((float) 99999999999999.9));
        fault(1, "0.123456789012345F", 0);
        value("0.0", 7, 0);
        value("-0.0", 7, Engine.bits(-0.0));
        fault(1, "1.", 1);
        fault(1, "1.F", 1);
        fault(1, ".1", 0);
        fault(1, "1.5L", 3);
        fault(1, "1.5.5", 3);
        fault(1, "1.5f", 3);
        fault(1, "1F", 1);
        fault(1, "1 .5", 2);
    }

    private static void bytesOutsideTheTextAreNoTokens() {
        value("\t1\n+\r2 ", 4, 3);
        for (int b : new int[] {0, 1, 8, 11, 12, 14, 31, 127, 128, 160, 255}) {
            fault(1, "1 " + (char) b + "+ 2", 2);
            fault(1, "" + (char) b, 0);
        }
        for (String sign : "\" # $ ' . @ [ ] _ ` { } \\".split(" ")) {
            fault(1, "1" + sign, 1);
        }
    }

    private static void theLongestTokenIsTaken() {
        value("-16>>>28", 4, 15);
        value("-16>>28", 4, -1);
        fault(1, "1>>>>1", 4);
        fault(1, "1>>=1", 3);
        fault(1, "1=1", 1);
        fault(1, "1===1", 3);
        value("1<=1", 0, 1);
        fault(1, "1=<1", 1);
        value("true||!true", 0, 1);
        fault(1, "true|||true", 6);
        value("1&1&1", 4, 1);
        fault(1, "true&&&true", 6);
        value("3!=!true==false?1:2".replace("3!=!true==false", "true!=!true"), 4, 1);
        fault(1, "12ab", 2);
        fault(1, "5L5", 2);
    }

    private static void parametersAre1To6() {
        GridEngine x = new GridEngine();
        functionFault(x, 1, "int f() = 1;", 6);
        Due.due("one", Engine.functions(x, "int f(int a) = 1;"), 1);
        Due.due("six", Engine.functions(x, "int f(int a, int b, int c, int d, int e, int f) = a + f;"), 2);
        functionFault(x, 1, "int g(int a, int b, int c, int d, int e, int f, int g) = 1;", 48);
        functionFault(x, 1, "int g(int a, int b, int c, int d, int e, int f, ) = 1;", 48);
        Due.due("six arguments", x.cell(Engine.formula(x, "f(1, 2, 3, 4, 5, 60)"), 0), 61);
        Due.due("seven arguments", Engine.formula(x, "f(1, 2, 3, 4, 5, 6, 7)"), -22);
        Due.due("place()", x.place(), 0);
        Due.due("five arguments", Engine.formula(x, "1 + f(1, 2, 3, 4, 5)"), -22);
        Due.due("place()", x.place(), 4);
        Due.due("no arguments", Engine.formula(x, "f()"), -21);
        Due.due("place()", x.place(), 2);
    }

    private static String functions(int from, int to) {
        StringBuilder text = new StringBuilder();
        for (int n = from; n <= to; n++) {
            text.append("int q").append(n).append("(int x)=").append(n).append(";");
        }
        return text.toString();
    }

    private static void functionsAreAtMost40ForLife() {
        GridEngine x = new GridEngine();
        Due.due("39", Engine.functions(x, functions(1, 39)), 39);
        String two = functions(40, 41);
        functionFault(x, 1, two, two.indexOf("int q41"));
        Due.due("those of a text with a fault do not count", Engine.functions(x, functions(40, 40)), 40);
        functionFault(x, 1, functions(41, 41), 0);
        functionFault(x, 1, "  x", 2);
        Due.due("none more are taken by no functions", Engine.functions(x, " "), 40);
        Due.due("the last one", x.cell(Engine.formula(x, "q40(1)"), 0), 40);
        Due.due("the last one's number", Engine.choose(x, "q40", 4), 39);
        GridEngine y = new GridEngine();
        String all = functions(1, 41);
        functionFault(y, 1, all, all.indexOf("int q41"));
        Due.due("none of them is there", Engine.choose(y, "q1", 4), -15);
        Due.due("a fault 2 comes behind it", Engine.functions(y, functions(1, 40).replace("=1;", "=z;") + "int q41(int x)=1;"), -21);
        Due.due("30", Engine.functions(y, functions(1, 30)), 30);
        y.crash(0);
        y.reopen();
        Due.due("those that were lost are not there", Engine.choose(y, "q1", 4), -15);
        Due.due("none is there", Engine.functions(y, ""), 0);
        String more = functions(1, 11);
        functionFault(y, 1, more, more.indexOf("int q11"));
        Due.due("but they count: ten more", Engine.functions(y, functions(1, 10)), 10);
        Due.due("numbers begin at 0 again", Engine.choose(y, "q1", 4), 0);
        functionFault(y, 1, "int z(int x)=1;", 0);
    }

    private static void textsHaveAtMost4000Bytes() {
        GridEngine x = new GridEngine();
        Due.due("formula of 4000 bytes", Engine.formula(x, many(" ", 3999) + "7"), 1);
        Due.due("formula of 4001 bytes", Engine.formula(x, "7" + many(" ", 4000)), -21);
        Due.due("place()", x.place(), 4000);
        Due.due("another fault 1 before", Engine.formula(x, "$" + many(" ", 4000)), -21);
        Due.due("place()", x.place(), 4000);
        Due.due("functions of 4000 bytes", Engine.functions(x, "int f(int x)=1;" + many(" ", 3985)), 1);
        Due.due("functions of 4001 bytes", Engine.functions(x, "int g(int x)=1;" + many(" ", 3986)), -21);
        Due.due("place()", x.place(), 4000);
        Due.due("it is not there", Engine.choose(x, "g", 4), -15);
        Due.due("functions of 4001 blanks", Engine.functions(x, many(" ", 4001)), -21);
        Due.due("place()", x.place(), 4000);
        Due.due("formula of 4000 blanks", Engine.formula(x, many(" ", 4000)), -21);
        Due.due("place()", x.place(), 4000);
        Due.due("formula of 3999 blanks", Engine.formula(x, many(" ", 3999)), -21);
        Due.due("place()", x.place(), 3999);
    }

    private static void depthIs25AtMost() {
        value(many("(", 24) + "1" + many(")", 24), 4, 1);
        fault(1, many("(", 25) + "1" + many(")", 25), 25);
        value(many("-", 24) + "1", 4, 1);
        fault(1, many("-", 25) + "1", 25);
        value(many("!", 24) + "true", 0, 1);
        fault(1, many("!", 25) + "true", 25);
        value(many("~", 24) + "1", 4, 1);
        fault(1, many("~", 25) + "1", 25);
        value(many("(int)", 24) + "1", 4, 1);
        fault(1, many("(int)", 25) + "1", 24 * 5 + 1);
        value(many("abs(", 24) + "1" + many(")", 24), 4, 1);
        fault(1, many("abs(", 25) + "1" + many(")", 25), 100);
        value(many("max(1,", 24) + "1" + many(")", 24), 4, 1);
        fault(1, many("max(1,", 25) + "1" + many(")", 25), 24 * 6 + 4);
        value(many("true?", 24) + "1" + many(":2", 24), 4, 1);
        fault(1, many("true?", 25) + "1" + many(":2", 25), 125);
        value(many("false?2:", 24) + "1", 4, 1);
        fault(1, many("false?2:", 25) + "1", 24 * 8 + 6);
        // What is closed does not count.
        value(many("(", 23) + "(1)+(1)+-1" + many(")", 23), 4, 1);
        fault(1, many("(", 23) + "(1)+(-1)" + many(")", 23), 23 + 6);
        value(many("-", 23) + "(1)+" + many("-", 24) + "1", 4, 0);
        // The token that is too deep, not a fault behind it.
        fault(1, many("(", 26), 25);
        fault(1, many("(", 25) + "$", 25);
        fault(1, many("(", 25) + "   ", 28);
        GridEngine x = new GridEngine();
        Due.due("a body of 25", Engine.functions(x, "int f(int x)=" + many("(", 24) + "x" + many(")", 24) + ";"), 1);
        functionFault(x, 1, "int g(int x)=" + many("(", 25) + "x" + many(")", 25) + ";", 13 + 25);
        Due.due("each body begins at 1", Engine.functions(x, "int h(int x)=" + many("-", 24) + "x;int i(int x)=" + many("-", 24) + "x;"), 3);
    }

    /** As many parts side by side as the height allows. */
    private static void whatIsClosedIsNoDeeper() {
        String[] parts = {"(true ? 1 : 2)", "(false ? 2 : true ? 1 : 2)", "-(-1)", "(int) 1", "abs(1)", "max(0, 1)", "((1))", "- -1", "(1 < 2 ? 1 : 2)", "~~1"};
        for (String part : parts) {
            value(part + many(" + " + part, 25), 4, 26);
        }
        String inner = "(true ? 1 : 2)";
        value(many("(", 22) + inner + many(")", 22), 4, 1);
        fault(1, many("(", 23) + inner + many(")", 23), 23 + 8);
        value(many("(", 20) + inner + many("+" + inner, 9) + many(")", 20), 4, 10);
    }

    private static void digitsBehindThePoint() {
        String digits = "12345678901234";
        for (int n = 1; n <= 14; n++) {
            String text = "0." + digits.substring(0, n);
            value(text, 7, Engine.bits(Double.parseDouble(text)));
            value(text + "F", 6, Engine.bits((float) Double.parseDouble(text)));
            String ones = digits.substring(0, 15 - n) + "." + "1".repeat(n);
            value(ones, 7, Engine.bits(Double.parseDouble(ones)));
        }
    }

    /** An argument of each lane at each of six places, to parameters of the widest lane. */
    private static void argumentsAreWidenedOneByOne() {
        String[] value = {"", "(byte) -3", "(short) -3", "(char) 3", "-3", "-3L", "-3.5F", "-3.5"};
        double[] want = {0, -3, -3, 3, -3, -3, -3.5, -3.5};
        for (int place = 0; place < 6; place++) {
            for (int lane = 1; lane < 8; lane++) {
                GridEngine x = new GridEngine();
                String[] names = {"a", "b", "c", "d", "e", "f"};
                StringBuilder head = new StringBuilder();
                StringBuilder call = new StringBuilder();
                for (int k = 0; k < 6; k++) {
                    head.append(k == 0 ? "" : ", ").append("double ").append(names[k]);
                    call.append(k == 0 ? "" : ", ").append(k == place ? value[lane] : k % 2 == 0 ? "1.0F" : "2");
                }
                Engine.functions(x, "double q(" + head + ") = " + names[place] + ";");
                int g = Engine.formula(x, "q(" + call + ")");
                Due.due("argument " + place + " of lane " + lane, x.cell(g, 0), Engine.bits(want[lane]));
            }
        }
    }

    private static void heightIs30AtMost() {
        value("1" + many("+1", 29), 4, 30);
        fault(2, " 1" + many("+1", 30), 1);
        value("1" + many("*1", 28) + "+1", 4, 2);
        fault(2, "1" + many("*1", 29) + "+1", 0);
        // A function's call is one higher than its arguments, whatever its body's height is.
        value("abs(1" + many("+1", 28) + ")", 4, 29);
        fault(2, "abs(1" + many("+1", 29) + ")", 0);
        value("true?1" + many("+1", 28) + ":0", 4, 29);
        fault(2, "true?1" + many("+1", 29) + ":0", 0);
        fault(2, "true?1:1" + many("+1", 29), 0);
        fault(2, "1" + many("+1", 29) + ">0?1:2", 0);
        value("-(1" + many("+1", 28) + ")", 4, -29);
        fault(2, "-(1" + many("+1", 29) + ")", 0);
        value("(long)(1" + many("+1", 28) + ")", 5, 29);
        fault(2, "  (long)(1" + many("+1", 29) + ")", 2);
        value("(((1" + many("+1", 29) + ")))", 4, 30);
        GridEngine x = new GridEngine();
        Due.due("30 high", Engine.functions(x, "int f(int x)=x" + many("+1", 29) + ";"), 1);
        functionFault(x, 2, "int g(int x)=x" + many("+1", 30) + ";", 4);
        Due.due("a body's height does not count in a call", x.cell(Engine.formula(x, "f(1)" + many("+1", 28)), 0), 58);
        Due.due("one more", Engine.formula(x, "f(1)" + many("+1", 29)), -22);
    }

    private static void fault1ComesBeforeFault2() {
        fault(2, "true + 1", 5);
        fault(1, "true + 1 +", 10);
        fault(1, "zz + $", 5);
        fault(1, "zz" + many("+1", 30) + ")", 62);
        GridEngine x = new GridEngine();
        functionFault(x, 2, "int abs(int x)=1; int f(int x)=1;", 4);
        functionFault(x, 1, "int abs(int x)=1; int f(int x)=1", 32);
        functionFault(x, 1, "int f(int x)=zz; $", 17);
    }

    private static void fault2InTheOrderOfTheText() {
        fault(2, "(true + 1) + zz", 6);
        fault(2, "zz + (true + 1)", 0);
        fault(2, "1 + true * 2", 9);
        fault(2, "1 + 2 * zz + yy", 8);
        fault(2, "abs(zz, true + 1)", 4);
        fault(2, "abs(1, true + 1)", 12);
        fault(2, "abs(1, 2)", 0);
        fault(2, "1 ? zz : yy", 4);
        fault(2, "1 ? true : 2", 2);
        fault(2, "true ? 1 : true", 5);
        fault(2, "true ? 1 : (byte) true", 11);
        fault(2, "(int) zz", 6);
        fault(2, "-(int) true", 1);
        fault(2, "-true", 0);
        fault(2, "true && 1 && zz", 5);
        fault(2, "1 && true", 2);
        fault(2, "true || 1", 5);
        fault(2, "true < true", 5);
        fault(2, "true == 1", 5);
        fault(2, "1 | true", 2);
        fault(2, "1.0 | 1", 4);
        fault(2, "1 << 1.0", 2);
        fault(2, "1.0F >>> 1", 5);
        fault(2, "~1.0", 0);
        fault(2, "!1", 0);
        fault(2, "-" + "false", 0);
        fault(2, "f(1)", 0);
        fault(2, "floordiv(1.0, 1)", 0);
        fault(2, "bits(1.0F)", 0);
        fault(2, "high(true)", 0);
        fault(2, "min(true, true)", 0);
        fault(2, "sqrt(true)", 0);
    }

    private static void headsBeforeBodies() {
        GridEngine x = new GridEngine();
        Engine.functions(x, "int f(int x) = x; long f(long x, int y) = x;");
        functionFault(x, 2, "int f(int y) = zz;", 4);
        functionFault(x, 2, "long f(int y) = zz;", 5);
        Due.due("other lanes, the same name", Engine.functions(x, "int f(byte y) = 1; int f(int x, int y) = 2;"), 4);
        functionFault(x, 2, "int sqrt(int x, int x) = zz;", 4);
        functionFault(x, 2, "int g(int x, int x) = zz;", 17);
        functionFault(x, 2, "int g(int x, byte y, int y, int x) = zz;", 25);
        functionFault(x, 2, "int f(int y, int y) = zz;", 4);
        functionFault(x, 2, "int g(int x) = zz" + many("+1", 30) + ";", 4);
        functionFault(x, 2, "byte g(int x) = zz + x;", 16);
        functionFault(x, 2, "byte g(int x) = x;", 5);
        functionFault(x, 2, "byte g(int x) = 1;", 5);
        functionFault(x, 2, "boolean g(int x) = x;", 8);
        functionFault(x, 2, "int g(boolean x) = x;", 4);
        functionFault(x, 2, "char g(short x) = x;", 5);
        functionFault(x, 2, "short g(char x) = x;", 6);
        functionFault(x, 2, "int g(int x) = 1; long g(int y) = 2;", 23);
        functionFault(x, 2, "int g(int x) = g(x);", 15);
        functionFault(x, 2, "int g(int x) = h(x); int h(int x) = x;", 15);
        functionFault(x, 2, "int g(int x) = i;", 15);
        functionFault(x, 2, "int g(int x) = a;", 15);
        Due.due("those that stand before it", Engine.functions(x, "int g(int x) = f(x) + f(x, 1); int h(int x) = g(x) * 2;"), 6);
        Due.due("h", x.cell(Engine.formula(x, "h(5)"), 0), 14);
        for (String name : "abs sign min max floordiv floormod addexact subexact mulexact bits high sqrt floor ceil round".split(" ")) {
            functionFault(x, 2, "int " + name + "(boolean x, boolean y, boolean z) = 1;", 4);
        }
        Due.due("names of operands and places are free", Engine.functions(x, "int a(int i) = i + 1; int i(int a) = a;"), 8);
        Due.due("a(3)", x.cell(Engine.formula(x, "a(3) + i(1) + i"), 0), 5);
    }

    private static void namesMeanOperandsAndPlaces() {
        GridEngine x = new GridEngine();
        for (int n = 0; n < 8; n++) {
            String name = String.valueOf((char) ('a' + n));
            Due.due("unbound " + name, Engine.formula(x, "1 + " + name), -22);
            Due.due("place()", x.place(), 4);
            int g = x.grid(4);
            x.put(g, 4, 100 + n);
            x.bind(n, g);
            Due.due("bound " + name, x.cell(Engine.formula(x, name), 0), 100 + n);
        }
        for (String name : new String[] {"m", "z", "aa", "a1", "ij"}) {
            Due.due(name + " means nothing", Engine.formula(x, name), -22);
        }
        x.axis(2);
        x.axis(1);
        x.axis(2);
        x.axis(2);
        x.bind(0, x.grid(1));
        Due.due("i", Engine.cells(x, Engine.formula(x, "a * 0 + i")), 0, 1, 0, 1, 0, 1, 0, 1);
        Due.due("j", Engine.cells(x, Engine.formula(x, "a * 0 + j")), 0, 0, 1, 1, 0, 0, 1, 1);
        Due.due("k", Engine.cells(x, Engine.formula(x, "a * 0 + k")), 0, 0, 0, 0, 0, 0, 0, 0);
        Due.due("l", Engine.cells(x, Engine.formula(x, "a * 0 + l")), 0, 0, 0, 0, 1, 1, 1, 1);
        x.axis(2);
        x.bind(0, x.grid(1));
        Due.due("no such axis", Engine.cells(x, Engine.formula(x, "a * 0 + 100 * j + 10 * k + l + i")), 0, 1);
        Due.due("no axes at all", x.cell(Engine.formula(x, "i + j + k + l"), 0), 0);
        x.bind(0, 0);
        Due.due("unbound again", Engine.formula(x, "a"), -22);
    }

    private static void bindTakes0To7() {
        GridEngine x = new GridEngine();
        int g = x.grid(4);
        Due.due("bind(0)", x.bind(0, g), 0);
        Due.due("bind(7)", x.bind(7, g), 0);
        for (int n : new int[] {-1, 8, Integer.MIN_VALUE, Integer.MAX_VALUE}) {
            Refused.due(x, "bind(" + n + ")", () -> x.bind(n, g), -2);
            Refused.due(x, "bind(" + n + ", 0)", () -> x.bind(n, 0), -2);
            Refused.due(x, "bind(" + n + ") of none", () -> x.bind(n, 99), -14);
        }
        Refused.due(x, "bind of -1", () -> x.bind(0, -1), -14);
        Refused.due(x, "bind of 2", () -> x.bind(0, 2), -14);
        Due.due("the binding stays", Engine.formula(x, "a + h"), 2);
        Due.due("unbind", x.bind(0, 0), 0);
        Due.due("unbind what is not bound", x.bind(0, 0), 0);
        Due.due("it is gone", Engine.formula(x, "a"), -22);
        Due.due("the other one is not", Engine.formula(x, "h"), 3);
    }

    /** Of each two lanes, and of the signs and casts of each one. */
    private static void theWiderLane() {
        int[] least = {0, 4, 4, 4, 4, 5, 6, 7};
        for (int a = 0; a < 8; a++) {
            for (int b = 0; b < 8; b++) {
                GridEngine x = new GridEngine();
                x.bind(0, Engine.row(x, a, 1));
                x.bind(1, Engine.row(x, b, 1));
                boolean numbers = a > 0 && b > 0;
                boolean whole = numbers && a < 6 && b < 6;
                boolean booleans = a == 0 && b == 0;
                int wider = Math.max(least[a], least[b]);
                lane(x, "a + b", numbers ? wider : -22);
                lane(x, "a & b", booleans ? 0 : whole ? wider : -22);
                lane(x, "a << b", whole ? least[a] : -22);
                lane(x, "a < b", numbers ? 0 : -22);
                lane(x, "a == b", numbers || booleans ? 0 : -22);
                lane(x, "a && b", booleans ? 0 : -22);
                lane(x, "true ? a : b", a == b ? a : numbers ? wider : -22);
                lane(x, "max(a, b)", numbers ? wider : -22);
                lane(x, "floordiv(a, b)", whole ? wider : -22);
                lane(x, "(" + Engine.LANES[b] + ") a", numbers || booleans ? b : -22);
                lane(x, "-a", a > 0 ? least[a] : -22);
                lane(x, "~a", a > 0 && a < 6 ? least[a] : -22);
                lane(x, "!a", a == 0 ? 0 : -22);
                lane(x, "sign(a)", a > 0 ? least[a] : -22);
                lane(x, "bits(a)", a > 0 && a < 6 ? least[a] : -22);
                lane(x, "sqrt(a)", a > 0 ? 7 : -22);
            }
        }
    }

    private static void lane(GridEngine x, String text, int want) {
        int g = Engine.formula(x, text);
        Due.due("lane of <" + text + "> for " + x.lane(1) + " and " + x.lane(2), g < 0 ? g : x.lane(g), want);
    }

    private static void wholeNumbersWrap() {
        value("2147483647 + 1", 4, Integer.MIN_VALUE);
        value("-2147483647 - 2", 4, Integer.MAX_VALUE);
        value("65536 * 65536", 4, 0);
        value("-(-2147483647 - 1)", 4, Integer.MIN_VALUE);
        value("(-2147483647 - 1) / -1", 4, Integer.MIN_VALUE);
        value("(-2147483647 - 1) % -1", 4, 0);
        value("9223372036854775807L + 1L", 5, Long.MIN_VALUE);
        value("-9223372036854775807L - 2L", 5, Long.MAX_VALUE);
        value("9223372036854775807L * 2L", 5, -2);
        value("-(-9223372036854775807L - 1L)", 5, Long.MIN_VALUE);
        value("(-9223372036854775807L - 1L) / -1L", 5, Long.MIN_VALUE);
        value("(-9223372036854775807L - 1L) % -1L", 5, 0);
        value("2147483647 + 1L", 5, 2147483648L);
        value("(byte) 127 + (byte) 1", 4, 128);
        value("-(byte) -128", 4, 128);
        value("~(byte) 0", 4, -1);
        value("-(char) 1", 4, -1);
        value("-7 / 2", 4, -3);
        value("-7 % 2", 4, -1);
        value("7 % -2", 4, 1);
        value("(byte) 128", 1, -128);
        value("(char) -1", 3, 65535);
        value("(short) 32768", 2, -32768);
        value("(int) 2147483648L", 4, Integer.MIN_VALUE);
    }

    private static void divisionBy0Fails() {
        fails("1 / 0");
        fails("1 % 0");
        fails("1L / 0L");
        fails("1L % 0");
        fails("floordiv(1, 0)");
        fails("floormod(1L, 0)");
        fails("0 / 0");
        value("1.0 / 0.0", 7, Engine.bits(INF));
        value("1 / 0.0", 7, Engine.bits(INF));
        value("-1.0F / 0.0F", 6, Engine.bits(Float.NEGATIVE_INFINITY));
        value("1.0 / -0.0", 7, Engine.bits(-INF));
        fails("0.0 / 0.0");
        fails("1.0 % 0.0");
        fails("0.0F / 0");
        String[] floats = {"", "F"};
        for (String f : floats) {
            String zero = "0.0" + f;
            String inf = "(1.0" + f + " / 0.0" + f + ")";
            for (String a : new String[] {"", "-"}) {
                for (String b : new String[] {"", "-"}) {
                    fails(a + zero + " / " + b + zero);
                    fails(a + inf + " / " + b + inf);
                    fails(a + inf + " * " + b + zero);
                    fails(a + zero + " * " + b + inf);
                    fails(a + inf + " % " + b + "2.0" + f);
                    fails(a + inf + " % " + b + inf);
                    fails(a + "2.0" + f + " % " + b + zero);
                    fails(a + zero + " % " + b + zero);
                }
                fails(a + inf + " - " + a + inf);
                fails(a + inf + " + -(" + a + inf + ")");
            }
        }
        value("5.5 % -2.0", 7, Engine.bits(1.5));
        value("-4.0 % 2.0", 7, Engine.bits(-0.0));
    }

    private static void shiftsTakeTheLowestBits() {
        value("1 << 31", 4, Integer.MIN_VALUE);
        value("1 << 32", 4, 1);
        value("1 << 33", 4, 2);
        value("1 << -1", 4, Integer.MIN_VALUE);
        value("1 << 4294967297L", 4, 2);
        value("1L << 63", 5, Long.MIN_VALUE);
        value("1L << 64", 5, 1);
        value("1L << 32", 5, 1L << 32);
        value("1L << -1", 5, Long.MIN_VALUE);
        value("-1 >>> 31", 4, 1);
        value("-1 >>> 32", 4, -1);
        value("-1 >> 31", 4, -1);
        value("-1L >>> 63", 5, 1);
        value("-1L >>> 64", 5, -1);
        value("1 << 40L", 4, 256);
        value("(byte) -1 >>> 28", 4, 15);
        value("(byte) 1 << (byte) 31", 4, Integer.MIN_VALUE);
        value("(char) 65535 << 1", 4, 131070);
    }

    private static void rightSidesAreWorkedOutOnlyIfTheyDecide() {
        value("false && 1 / 0 > 0", 0, 0);
        fails("true && 1 / 0 > 0");
        value("true || 1 / 0 > 0", 0, 1);
        fails("false || 1 / 0 > 0");
        value("true ? 1 : 1 / 0", 4, 1);
        fails("false ? 1 : 1 / 0");
        value("false ? 1 / 0 : 2", 4, 2);
        fails("true ? 1 / 0 : 2");
        fails("false & 1 / 0 > 0");
        fails("true | 1 / 0 > 0");
        value("true ? (byte) 1 : (byte) 2", 1, 1);
        value("true ? (byte) 1 : (short) 2", 4, 1);
        value("true ? (char) 1 : (short) 2", 4, 1);
        value("true ? 1 : 2.0F", 6, Engine.bits(1f));
        value("false ? 1.0F : 2147483647", 6, Engine.bits(2147483648f));
        value("true ? false : true", 0, 0);
    }

    private static void comparisonsOfZeros() {
        value("0.0 == -0.0", 0, 1);
        value("0.0 != -0.0", 0, 0);
        value("-0.0 < 0.0", 0, 0);
        value("-0.0 <= 0.0", 0, 1);
        value("-0.0F >= 0.0F", 0, 1);
        value("0.0F == -0.0", 0, 1);
        value("16777217 == 16777216.0F", 0, 1);
        value("9223372036854775807L == 9223372036854.0 * 1000000.0", 0, 0);
        value("2147483647 < 2147483648L", 0, 1);
        value("true != false", 0, 1);
        value("(char) 65 == 65.0", 0, 1);
    }

    private static void builtInsAtTheirEdges() {
        value("abs(-2147483647 - 1)", 4, Integer.MIN_VALUE);
        value("abs(-9223372036854775807L - 1L)", 5, Long.MIN_VALUE);
        value("abs(-0.0)", 7, 0);
        value("abs(-0.0F)", 6, 0);
        value("abs(-1.0 / 0.0)", 7, Engine.bits(INF));
        value("abs((byte) -128)", 4, 128);
        value("sign((byte) -128)", 4, -1);
        value("sign(-9223372036854775807L)", 5, -1);
        value("sign(-0.0)", 7, 0);
        value("sign(-0.0F)", 6, 0);
        value("sign(-1.0F / 0.0F)", 6, Engine.bits(-1f));
        value("sign(0.0001)", 7, Engine.bits(1.0));
        value("sign((char) 0)", 4, 0);
        value("min(0.0, -0.0)", 7, Engine.bits(-0.0));
        value("min(-0.0, 0.0)", 7, Engine.bits(-0.0));
        value("max(-0.0, 0.0)", 7, 0);
        value("max(0.0F, -0.0F)", 6, 0);
        value("min(1, 2L)", 5, 1);
        value("max((byte) 1, (byte) 2)", 4, 2);
        value("max(2147483647, 1.0F)", 6, Engine.bits(2147483648f));
        value("floordiv(-7, 2)", 4, -4);
        value("floormod(-7, 2)", 4, 1);
        value("floormod(7, -2)", 4, -1);
        value("floordiv(-2147483647 - 1, -1)", 4, Integer.MIN_VALUE);
        value("floormod(-2147483647 - 1, -1)", 4, 0);
        value("floordiv(-9223372036854775807L - 1L, -1)", 5, Long.MIN_VALUE);
        value("floormod(-9223372036854775807L - 1L, -1)", 5, 0);
        value("bits(-1)", 4, 32);
        value("bits((byte) -1)", 4, 32);
        value("bits(-1L)", 5, 64);
        value("bits(0)", 4, 0);
        value("bits((char) 65535)", 4, 16);
        value("high(0)", 4, -1);
        value("high(0L)", 5, -1);
        value("high(1)", 4, 0);
        value("high(-1)", 4, 31);
        value("high((byte) -1)", 4, 31);
        value("high(-1L)", 5, 63);
        value("high(2147483647)", 4, 30);
        value("high(4294967296L)", 5, 32);
    }

    private static void exactBuiltInsAtTheirEdges() {
        value("addexact(2147483646, 1)", 4, Integer.MAX_VALUE);
        fails("addexact(2147483647, 1)");
        value("addexact(-2147483647, -1)", 4, Integer.MIN_VALUE);
        fails("addexact(-2147483647, -2)");
        value("addexact(2147483647, 1L)", 5, 2147483648L);
        value("addexact((byte) 127, (byte) 1)", 4, 128);
        fails("addexact(9223372036854775807L, 1)");
        value("subexact(-2147483647, 1)", 4, Integer.MIN_VALUE);
        fails("subexact(-2147483647, 2)");
        fails("subexact(0, -2147483647 - 1)");
        value("subexact(-1, -2147483647 - 1)", 4, Integer.MAX_VALUE);
        fails("subexact(0L, -9223372036854775807L - 1L)");
        value("subexact(-1L, -9223372036854775807L - 1L)", 5, Long.MAX_VALUE);
        value("mulexact(46340, 46340)", 4, 46340 * 46340);
        fails("mulexact(46341, 46341)");
        value("mulexact(-2147483647 - 1, 1)", 4, Integer.MIN_VALUE);
        fails("mulexact(-2147483647 - 1, -1)");
        value("mulexact(65536, -32768)", 4, Integer.MIN_VALUE);
        fails("mulexact(65536, 32768)");
        value("mulexact(3037000499L, 3037000499L)", 5, 3037000499L * 3037000499L);
        fails("mulexact(3037000500L, 3037000500L)");
        fails("mulexact(-9223372036854775807L - 1L, -1L)");
        fails("mulexact(-1L, -9223372036854775807L - 1L)");
        // All digits of what is looked at are ones.
        fails("addexact(6148914691236517205L, 6148914691236517205L)");
        fails("subexact(-6148914691236517206L, 6148914691236517205L)");
        fails("addexact(1431655765, 1431655765)");
        value("mulexact(0, -9223372036854775807L - 1L)", 5, 0);
    }

    private static void rootsAndRoundings() {
        value("sqrt(0)", 7, 0);
        value("sqrt(-0.0)", 7, Engine.bits(-0.0));
        fails("sqrt(-0.00000000000001)");
        fails("sqrt(-1)");
        fails("sqrt(-1.0 / 0.0)");
        value("sqrt(1.0 / 0.0)", 7, Engine.bits(INF));
        value("sqrt(2)", 7, Engine.bits(Math.sqrt(2)));
        value("sqrt(9223372036854775807L)", 7, Engine.bits(Math.sqrt(0x1p63)));
        value("sqrt(2.0F)", 7, Engine.bits(Math.sqrt(2)));
        value("floor(-0.5)", 7, Engine.bits(-1.0));
        value("floor(0.5)", 7, 0);
        value("floor(-0.0)", 7, Engine.bits(-0.0));
        value("ceil(-0.5)", 7, Engine.bits(-0.0));
        value("ceil(-0.0)", 7, Engine.bits(-0.0));
        value("ceil(0.5)", 7, Engine.bits(1.0));
        value("round(-0.5)", 7, Engine.bits(-0.0));
        value("round(-0.4)", 7, Engine.bits(-0.0));
        value("round(0.5)", 7, 0);
        value("round(1.5)", 7, Engine.bits(2.0));
        value("round(2.5)", 7, Engine.bits(2.0));
        value("round(-2.5)", 7, Engine.bits(-2.0));
        value("round(-1.0 / 0.0)", 7, Engine.bits(-INF));
        value("floor(7)", 7, Engine.bits(7.0));
        value("ceil(9223372036854775807L)", 7, Engine.bits(0x1p63));
        value("round(2.5F)", 7, Engine.bits(2.0));
        value("floor(99999999999999.9)", 7, Engine.bits(99999999999999.0));
        value("round(4503599627370.5 * 1000.0)", 7, Engine.bits(4503599627370500.0));
    }

    private static void choiceOfFunctions() {
        GridEngine x = new GridEngine();
        Engine.functions(x, "int f(short x) = 1; int f(char x) = 2; int f(float x) = 3;");
        int[] want = {-15, 0, 0, 1, 2, 2, 2, -15};
        for (int lane = 0; lane < 8; lane++) {
            Due.due("f of lane " + lane, Engine.choose(x, "f", lane), want[lane]);
        }
        Engine.functions(x, "int g(int x, long y) = 1; int g(long x, int y) = 2; int h(long x, long y) = 1; int h(int x, double y) = 2;");
        Due.due("g of ints is not clear", Engine.choose(x, "g", 4, 4), -16);
        Due.due("g of bytes is not clear", Engine.choose(x, "g", 1, 1), -16);
        Due.due("g of int and long", Engine.choose(x, "g", 4, 5), 3);
        Due.due("g of long and int", Engine.choose(x, "g", 5, 4), 4);
        Due.due("g of longs fits none", Engine.choose(x, "g", 5, 5), -15);
        Due.due("h of ints is not clear", Engine.choose(x, "h", 4, 4), -16);
        Due.due("h of longs", Engine.choose(x, "h", 5, 5), 5);
        Due.due("h of int and float", Engine.choose(x, "h", 4, 6), 6);
        Due.due("a call that is not clear", Engine.formula(x, "1 + g(1, 1)"), -22);
        Due.due("place()", x.place(), 4);
        Due.due("a call that fits none", Engine.formula(x, "1 + g(1L, 1L)"), -22);
        Due.due("place()", x.place(), 4);
        Engine.functions(x, "int g(int x, int y) = 3;");
        Due.due("now there is one that fits all others", Engine.choose(x, "g", 4, 4), 7);
        Due.due("and for bytes", Engine.choose(x, "g", 1, 2), 7);
        Due.due("arguments are widened", x.cell(Engine.formula(x, "f(1)"), 0), 3);
        Engine.functions(x, "double wide(double x) = x / 2.0; long up(int x) = x * 2;");
        Due.due("int to double", x.cell(Engine.formula(x, "wide(1)"), 0), Engine.bits(0.5));
        Due.due("the body wraps in its own lane", x.cell(Engine.formula(x, "up(2147483647)"), 0), -2);
        Due.due("the result is widened", x.lane(Engine.formula(x, "up(2147483647)")), 5);
    }

    private static void chooseTakesOneToFourLanes() {
        GridEngine x = new GridEngine();
        Engine.functions(x, "int f(int a) = 1; int f(int a, int b, int c, int d) = 4; int f(int a, int b, int c, int d, int e) = 5;");
        Due.due("no lanes", Engine.choose(x, "f"), -14);
        Due.due("one", Engine.choose(x, "f", 4), 0);
        Due.due("two", Engine.choose(x, "f", 4, 4), -15);
        Due.due("four", Engine.choose(x, "f", 4, 4, 4, 4), 1);
        Due.due("a fifth is no size", Engine.choose(x, "f", 4, 4, 4, 4, 4), 1);
        Due.due("lane 7", Engine.choose(x, "f", 7), -15);
        Due.due("lane 8", Engine.choose(x, "f", 8), -14);
        Due.due("lane 0", Engine.choose(x, "f", 0), -15);
        Due.due("a lane behind others", Engine.choose(x, "f", 4, 4, 4, 4096), -14);
        Due.due("sizes are used up", x.axis(4), 1);
        Engine.feed(x, "f");
        Due.due("choose", x.choose(), 0);
        Due.due("the tray is used up", x.end(1), -1);
        x.axis(9);
        Engine.feed(x, "f");
        Due.due("refused", x.choose(), -14);
        Due.due("the tray is used up", x.end(1), -1);
        Due.due("no such name before no lane", Engine.choose(x, "zz", 9), -14);
    }

    private static int grid(GridEngine x, int... sizes) {
        for (int s : sizes) {
            x.axis(s);
        }
        return x.grid(4);
    }

    private static void shapes(int[] a, int[] b, String want) {
        GridEngine x = new GridEngine();
        x.bind(0, grid(x, a));
        x.bind(1, grid(x, b));
        if (want == null) {
            Refused.due(x, "a + b", () -> Engine.formula(x, "a + b"), -3);
            Refused.due(x, "b + a", () -> Engine.formula(x, "b + a"), -3);
            Due.due("steps", x.steps(), 0);
            Due.due("failed", x.failed(0), -1);
        } else {
            Due.due("a + b", Engine.shape(x, Engine.formula(x, "a + b")), want);
            Due.due("b + a", Engine.shape(x, Engine.formula(x, "b + a")), want);
        }
    }

    private static void shapesAreJoinedFromTheLastAxis() {
        shapes(new int[] {3}, new int[] {3}, "3");
        shapes(new int[] {3}, new int[] {1}, "3");
        shapes(new int[] {3}, new int[] {}, "3");
        shapes(new int[] {3}, new int[] {2}, null);
        shapes(new int[] {2, 3}, new int[] {3}, "2x3");
        shapes(new int[] {2, 3}, new int[] {2}, null);
        shapes(new int[] {2, 1}, new int[] {3}, "2x3");
        shapes(new int[] {2, 1, 3}, new int[] {4, 1}, "2x4x3");
        shapes(new int[] {2, 3, 4, 5}, new int[] {5}, "2x3x4x5");
        shapes(new int[] {1, 1, 1, 1}, new int[] {}, "1x1x1x1");
        shapes(new int[] {0}, new int[] {1}, "0");
        shapes(new int[] {0}, new int[] {}, "0");
        shapes(new int[] {0}, new int[] {2}, null);
        shapes(new int[] {0, 1}, new int[] {3}, "0x3");
        GridEngine x = new GridEngine();
        x.bind(0, grid(x, 2));
        x.bind(1, grid(x, 3));
        Due.due("not worked out, but it stands there", Engine.formula(x, "true ? a : b"), -3);
        Due.due("bound, but not in the text", Engine.shape(x, Engine.formula(x, "a")), "2");
        Due.due("22 before 3", Engine.formula(x, "a + b + true"), -22);
    }

    private static void resultsHaveAtMost100000Cells() {
        GridEngine x = new GridEngine();
        x.bind(0, grid(x, 400, 1));
        x.bind(1, grid(x, 250));
        x.bind(2, grid(x, 251));
        Refused.due(x, "100400 cells", () -> Engine.formula(x, "a / 0 + c"), -12);
        Due.due("steps", x.steps(), 0);
        Due.due("failed", x.failed(0), -1);
        Refused.due(x, "100000 cells fail before there is no room", () -> Engine.formula(x, "a / 0 + b"), -8);
        Due.due("steps", x.steps(), 1);
        Refused.due(x, "100000 cells are worked out, but there is no room", () -> Engine.formula(x, "a + b"), -12);
        Due.due("steps", x.steps(), 100000);
        Due.due("failed", x.failed(0), -1);
    }

    private static void theFirstCellThatFailsIsTold() {
        GridEngine x = new GridEngine();
        int g = Engine.grid(x, 4, new int[] {2, 3}, 1, 1, 1, 1, 0, 0);
        x.bind(0, g);
        Refused.due(x, "6 / a", () -> Engine.formula(x, "6 / a"), -8);
        Due.due("failed(0)", x.failed(0), 1);
        Due.due("failed(1)", x.failed(1), 1);
        Due.due("failed(2)", x.failed(2), -1);
        Due.due("failed(-1)", x.failed(-1), -1);
        Due.due("failed(MIN)", x.failed(Integer.MIN_VALUE), -1);
        Due.due("failed(MAX)", x.failed(Integer.MAX_VALUE), -1);
        Due.due("steps", x.steps(), 5);
        x.bind(0, Engine.view(x, g, "::-1,::-1"));
        Refused.due(x, "6 / a, turned over", () -> Engine.formula(x, "6 / a"), -8);
        Due.due("failed(0)", x.failed(0), 0);
        Due.due("failed(1)", x.failed(1), 0);
        int deep = grid(x, 3, 2, 2, 2);
        x.bind(0, deep);
        Refused.due(x, "the last of four axes", () -> Engine.formula(x, "1 / (l == 2 && k == 1 && j == 0 && i == 1 ? a : 1)"), -8);
        int[] spot = {2, 1, 0, 1};
        for (int n = 0; n < 4; n++) {
            Due.due("failed(" + n + ")", x.failed(n), spot[n]);
        }
        x.bind(0, Engine.view(x, g, ":,:2"));
        x.bind(1, Engine.view(x, g, "*,*,:,:2"));
        Refused.due(x, "four axes", () -> Engine.formula(x, "6 / a + b"), -8);
        for (int n = 0; n < 4; n++) {
            Due.due("failed(" + n + ")", x.failed(n), n < 2 ? 0 : 1);
        }
        Due.due("failed(4)", x.failed(4), -1);
    }

    private static void stepsAreAtMost400000() {
        GridEngine x = new GridEngine();
        x.bind(0, grid(x, 100, 100));
        // 40 steps in each of 10000 cells; a sum of 21 parts twice.
        String forty = "a" + many("+a", 20) + " + (a" + many("+a", 18) + ")" + "+a";
        Due.due("400000 steps", Engine.formula(x, forty) > 0, true);
        Due.due("steps", x.steps(), 400000);
        Due.due("failed", x.failed(0), -1);
        Refused.due(x, "400001 steps", () -> Engine.formula(x, forty + " + (i == 99 && j == 99 ? 0 : 0)"), -10);
        GridEngine y = new GridEngine();
        y.bind(0, grid(y, 4000));
        // Each cell but the last one has 100 steps: < and ? and 98 times +.
        Due.due("400000 steps", Engine.formula(y, "i < 3999 ? " + adding(98) + " : " + adding(98)) > 0, true);
        Due.due("steps", y.steps(), 400000);
        Due.due("399999 steps", Engine.formula(y, "i < 3999 ? " + adding(98) + " : " + adding(97)) > 0, true);
        Due.due("steps", y.steps(), 399999);
        Refused.due(y, "400001 steps", () -> Engine.formula(y, "i < 3999 ? " + adding(98) + " : " + adding(99)), -10);
        Due.due("failed(0)", y.failed(0), 3999);
        Due.due("failed(1)", y.failed(1), -1);
        Due.due("steps", y.steps(), 400000);
        Refused.due(y, "the last step fails", () -> Engine.formula(y, "i < 3999 ? " + adding(98) + " : " + adding(97) + " / 0"), -8);
        Due.due("steps", y.steps(), 400000);
        Refused.due(y, "one that would fail, too late", () -> Engine.formula(y, "i < 3999 ? " + adding(98) + " : " + adding(98) + " / 0"), -10);
        Due.due("the last step of a call", Engine.functions(y, "int f(int x) = x;"), 1);
        Refused.due(y, "a call too many", () -> Engine.formula(y, "i < 3999 ? " + adding(98) + " : f(" + adding(98) + ")"), -10);
        Due.due("the last call", Engine.formula(y, "i < 3999 ? " + adding(98) + " : f(" + adding(97) + ")") > 0, true);
        Due.due("steps", y.steps(), 400000);
    }

    /** A sum with 89 to 110 signs +. */
    private static String adding(int signs) {
        String ten = "(a" + many("+a", 9) + ")";
        return "(" + ten + many("+" + ten, 8) + many("+a", signs - 89) + ")";
    }

    private static void stepsOfRefusedFormulas() {
        GridEngine x = new GridEngine();
        x.bind(0, Engine.ints(x, 1, 2, 3));
        x.bind(1, Engine.ints(x, 1, 2));
        Engine.formula(x, "a + 1");
        Due.due("steps", x.steps(), 3);
        Engine.formula(x, "a +");
        Due.due("a fault 1 leaves them", x.steps(), 3);
        Engine.formula(x, "a + true");
        Due.due("a fault 2 leaves them", x.steps(), 3);
        Engine.formula(x, "a + b");
        Due.due("refused before anything is worked out", x.steps(), 0);
        Engine.formula(x, "a");
        Due.due("no steps", x.steps(), 0);
        Engine.formula(x, "1 / (a - 2) + 1");
        Due.due("up to the one that fails", x.steps(), 3 + 2);
        Engine.functions(x, "int f(int x) = x + 1;");
        Due.due("functions() leave them", x.steps(), 5);
        Engine.formula(x, "f(a)");
        Due.due("a call and its body", x.steps(), 6);
        x.crash(0);
        Due.due("behind a crash", x.steps(), 0);
        Engine.feed(x, "1 + 1");
        Due.due("closed", x.formula(), -13);
        Due.due("steps", x.steps(), 0);
        x.reopen();
        Due.due("the tray stayed", x.formula(), 6);
        Due.due("steps", x.steps(), 1);
    }

    private static void failedOfRefusedFormulas() {
        GridEngine x = new GridEngine();
        x.bind(0, Engine.ints(x, 1, 0));
        String[] refused = {"a +", "a + true", "zz"};
        for (String text : refused) {
            Engine.formula(x, "1 / a");
            Due.due("failed(0)", x.failed(0), 1);
            Engine.formula(x, text);
            Due.due("behind <" + text + ">", x.failed(0), -1);
        }
        Engine.formula(x, "1 / a");
        Engine.formula(x, "a");
        Due.due("behind one that succeeds", x.failed(0), -1);
        Engine.formula(x, "1 / a");
        Engine.functions(x, "$");
        Due.due("functions() leave it", x.failed(0), 1);
        Engine.view(x, 1, "$");
        Due.due("view() leaves it", x.failed(0), 1);
    }

    private static void placeOfTheLatestThatWasNotRefusedOtherwise() {
        GridEngine x = new GridEngine();
        x.bind(0, Engine.ints(x, 1, 0));
        x.bind(1, Engine.ints(x, 1, 2, 3));
        Engine.formula(x, "a + $");
        Due.due("place()", x.place(), 4);
        Engine.formula(x, "1 / a");
        Due.due("behind 8", x.place(), 4);
        Engine.formula(x, "a + b");
        Due.due("behind 3", x.place(), 4);
        Engine.view(x, 99, "$");
        Due.due("behind 14", x.place(), 4);
        Engine.functions(x, "int f(int x) = zz;");
        Due.due("a fault of functions()", x.place(), 15);
        Engine.functions(x, "");
        Due.due("functions() without fault", x.place(), -1);
        Engine.table(x, "a,a\n");
        Due.due("a fault of table()", x.place(), 2);
        Engine.formula(x, "a");
        Due.due("formula() without fault", x.place(), -1);
        Engine.feed(x, "GR");
        x.read();
        Due.due("a fault of read()", x.place(), 0);
        Engine.table(x, "a\n");
        Due.due("table() without fault", x.place(), -1);
    }
}
