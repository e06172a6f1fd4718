import java.math.BigDecimal;
import java.math.RoundingMode;
import java.util.ArrayList;
import java.util.List;

/**
 * Formulas and functions once more, the other way round: a parser that goes down by recursion, and
 * the language's own arithmetic. The engine's answers are compared with it.
 */
final class Reference {
    static final int OK = 0;

    /** A value of a lane, as bits. */
    record Value(int lane, long bits) {
        double asDouble() {
            return switch (lane) {
                case 6 -> Float.intBitsToFloat((int) bits);
                case 7 -> Double.longBitsToDouble(bits);
                default -> (double) bits;
            };
        }

        float asFloat() {
            return lane == 6 ? Float.intBitsToFloat((int) bits) : (float) bits;
        }

        Value in(int other) {
            if (lane == other) {
                return this;
            }
            if (other == 6) {
                return new Value(6, Engine.bits(asFloat()));
            }
            if (other == 7) {
                return new Value(7, Engine.bits(asDouble()));
            }
            return new Value(other, bits);
        }
    }

    static final class Stop extends RuntimeException {
        final int code;
        final int place;

        Stop(int code, int place) {
            super(null, null, false, false);
            this.code = code;
            this.place = place;
        }
    }

    // ---- values

    static boolean number(int lane) {
        return lane >= 1;
    }

    static boolean whole(int lane) {
        return lane >= 1 && lane <= 5;
    }

    static int wider(int a, int b) {
        return Math.max(4, Math.max(a, b));
    }

    static boolean fits(int a, int b) {
        String[] up = {"", "24567", "4567", "4567", "567", "67", "7", ""};
        return a == b || up[a].indexOf('0' + b) >= 0;
    }

    static Value real(int lane, double d) {
        if (Double.isNaN(d)) {
            throw new Stop(8, -1);
        }
        return lane == 6 ? new Value(6, Engine.bits((float) d)) : new Value(7, Engine.bits(d));
    }

    static Value plainCast(Value v, int lane) {
        if (v.lane == lane) {
            return v;
        }
        if (v.lane == 6) {
            float f = v.asFloat();
            return switch (lane) {
                case 1 -> new Value(1, (byte) f);
                case 2 -> new Value(2, (short) f);
                case 3 -> new Value(3, (char) f);
                case 4 -> new Value(4, (int) f);
                case 5 -> new Value(5, (long) f);
                default -> new Value(7, Engine.bits((double) f));
            };
        }
        if (v.lane == 7) {
            double d = v.asDouble();
            return switch (lane) {
                case 1 -> new Value(1, (byte) d);
                case 2 -> new Value(2, (short) d);
                case 3 -> new Value(3, (char) d);
                case 4 -> new Value(4, (int) d);
                case 5 -> new Value(5, (long) d);
                default -> new Value(6, Engine.bits((float) d));
            };
        }
        long n = v.bits;
        return switch (lane) {
            case 1 -> new Value(1, (byte) n);
            case 2 -> new Value(2, (short) n);
            case 3 -> new Value(3, (char) n);
            case 4 -> new Value(4, (int) n);
            case 5 -> new Value(5, n);
            case 6 -> new Value(6, Engine.bits((float) n));
            default -> new Value(7, Engine.bits((double) n));
        };
    }

    static final long[] LEAST = {0, -128, -32768, 0, Integer.MIN_VALUE, Long.MIN_VALUE};
    static final long[] GREATEST = {1, 127, 32767, 65535, Integer.MAX_VALUE, Long.MAX_VALUE};

    /** The number that a value is, null if it is infinite. */
    static BigDecimal exact(Value v) {
        if (v.lane < 6) {
            return BigDecimal.valueOf(v.bits);
        }
        double d = v.asDouble();
        return Double.isInfinite(d) ? null : new BigDecimal(d);
    }

    /** A cast by a rule, null if it fails. */
    static Value cast(Value v, int lane, int rule) {
        if (v.lane == lane) {
            return v;
        }
        if (rule == 0 || lane >= 6 && rule != 2) {
            return plainCast(v, lane);
        }
        if (rule == 2) {
            Value r = plainCast(v, lane);
            BigDecimal a = exact(v);
            BigDecimal b = exact(r);
            if (a == null || b == null) {
                return a == null && b == null ? r : null;
            }
            return a.compareTo(b) == 0 ? r : null;
        }
        BigDecimal n = exact(v);
        if (n == null) {
            return new Value(lane, v.asDouble() < 0 ? LEAST[lane] : GREATEST[lane]);
        }
        n = n.setScale(0, rule == 1 ? RoundingMode.DOWN : RoundingMode.HALF_EVEN);
        BigDecimal least = BigDecimal.valueOf(LEAST[lane]);
        BigDecimal greatest = BigDecimal.valueOf(GREATEST[lane]);
        return new Value(lane, n.max(least).min(greatest).longValueExact());
    }

    static Value binary(String op, Value left, Value right) {
        if ("<< >> >>>".contains(op) && op.length() > 1) {
            if (Math.max(4, left.lane) == 4) {
                int a = (int) left.bits;
                int s = (int) right.bits & 31;
                return new Value(4, op.equals("<<") ? a << s : op.equals(">>") ? a >> s : a >>> s);
            }
            long a = left.bits;
            int s = (int) right.bits & 63;
            return new Value(5, op.equals("<<") ? a << s : op.equals(">>") ? a >> s : a >>> s);
        }
        if (left.lane == 0) {
            boolean a = left.bits == 1;
            boolean b = right.bits == 1;
            boolean r = switch (op) {
                case "==" -> a == b;
                case "!=" -> a != b;
                case "&" -> a & b;
                case "|" -> a | b;
                default -> a ^ b;
            };
            return new Value(0, r ? 1 : 0);
        }
        int lane = wider(left.lane, right.lane);
        Value x = left.in(lane);
        Value y = right.in(lane);
        if (lane == 4) {
            return intBinary(op, (int) x.bits, (int) y.bits);
        }
        if (lane == 5) {
            return longBinary(op, x.bits, y.bits);
        }
        if (lane == 6) {
            return floatBinary(op, x.asFloat(), y.asFloat());
        }
        return doubleBinary(op, x.asDouble(), y.asDouble());
    }

    private static Value truth(boolean b) {
        return new Value(0, b ? 1 : 0);
    }

    private static Value intBinary(String op, int a, int b) {
        if ("/%".contains(op) && b == 0) {
            throw new Stop(8, -1);
        }
        return switch (op) {
            case "+" -> new Value(4, a + b);
            case "-" -> new Value(4, a - b);
            case "*" -> new Value(4, a * b);
            case "/" -> new Value(4, a / b);
            case "%" -> new Value(4, a % b);
            case "&" -> new Value(4, a & b);
            case "|" -> new Value(4, a | b);
            case "^" -> new Value(4, a ^ b);
            case "<" -> truth(a < b);
            case ">" -> truth(a > b);
            case "<=" -> truth(a <= b);
            case ">=" -> truth(a >= b);
            case "==" -> truth(a == b);
            default -> truth(a != b);
        };
    }

    private static Value longBinary(String op, long a, long b) {
        if ("/%".contains(op) && b == 0) {
            throw new Stop(8, -1);
        }
        return switch (op) {
            case "+" -> new Value(5, a + b);
            case "-" -> new Value(5, a - b);
            case "*" -> new Value(5, a * b);
            case "/" -> new Value(5, a / b);
            case "%" -> new Value(5, a % b);
            case "&" -> new Value(5, a & b);
            case "|" -> new Value(5, a | b);
            case "^" -> new Value(5, a ^ b);
            case "<" -> truth(a < b);
            case ">" -> truth(a > b);
            case "<=" -> truth(a <= b);
            case ">=" -> truth(a >= b);
            case "==" -> truth(a == b);
            default -> truth(a != b);
        };
    }

    private static Value floatBinary(String op, float a, float b) {
        return switch (op) {
            case "+" -> real(6, a + b);
            case "-" -> real(6, a - b);
            case "*" -> real(6, a * b);
            case "/" -> real(6, a / b);
            case "%" -> real(6, a % b);
            case "<" -> truth(a < b);
            case ">" -> truth(a > b);
            case "<=" -> truth(a <= b);
            case ">=" -> truth(a >= b);
            case "==" -> truth(a == b);
            default -> truth(a != b);
        };
    }

    private static Value doubleBinary(String op, double a, double b) {
        return switch (op) {
            case "+" -> real(7, a + b);
            case "-" -> real(7, a - b);
            case "*" -> real(7, a * b);
            case "/" -> real(7, a / b);
            case "%" -> real(7, a % b);
            case "<" -> truth(a < b);
            case ">" -> truth(a > b);
            case "<=" -> truth(a <= b);
            case ">=" -> truth(a >= b);
            case "==" -> truth(a == b);
            default -> truth(a != b);
        };
    }

    static Value unary(String op, Value v) {
        return switch (op) {
            case "!" -> truth(v.bits == 0);
            case "~" -> v.lane == 5 ? new Value(5, ~v.bits) : new Value(4, ~(int) v.bits);
            default -> switch (v.lane) {
                case 5 -> new Value(5, -v.bits);
                case 6 -> new Value(6, Engine.bits(-v.asFloat()));
                case 7 -> new Value(7, Engine.bits(-v.asDouble()));
                default -> new Value(4, -(int) v.bits);
            };
        };
    }

    static final List<String> ONE = List.of("abs", "sign", "bits", "high", "sqrt", "floor", "ceil", "round");
    static final List<String> TWO = List.of("min", "max", "floordiv", "floormod", "addexact", "subexact", "mulexact");

    static boolean builtIn(String name) {
        return ONE.contains(name) || TWO.contains(name);
    }

    /** The lane of a built-in function's result, -1 if it does not take the lanes. */
    static int builtInLane(String name, int[] lanes) {
        if (lanes.length != (ONE.contains(name) ? 1 : 2)) {
            return -1;
        }
        boolean wantsWhole = !List.of("abs", "sign", "min", "max", "sqrt", "floor", "ceil", "round").contains(name);
        int lane = 4;
        for (int l : lanes) {
            if (wantsWhole ? !whole(l) : !number(l)) {
                return -1;
            }
            lane = Math.max(lane, l);
        }
        return List.of("sqrt", "floor", "ceil", "round").contains(name) ? 7 : lane;
    }

    static Value builtInValue(String name, int lane, Value[] args) {
        Value x = args[0].in(lane);
        Value y = args.length > 1 ? args[1].in(lane) : x;
        long a = x.bits;
        long b = y.bits;
        try {
            switch (name) {
                case "abs":
                    return lane == 4 ? new Value(4, Math.abs((int) a)) : lane == 5 ? new Value(5, Math.abs(a))
                        : lane == 6 ? real(6, Math.abs(x.asFloat())) : real(7, Math.abs(x.asDouble()));
                case "sign":
                    double d = lane < 6 ? Long.signum(a) : Math.signum(x.asDouble()) + 0.0;
                    return lane < 6 ? new Value(lane, (long) d) : real(lane, d);
                case "min":
                    return lane < 6 ? new Value(lane, Math.min(a, b)) : real(lane, Math.min(x.asDouble(), y.asDouble()));
                case "max":
                    return lane < 6 ? new Value(lane, Math.max(a, b)) : real(lane, Math.max(x.asDouble(), y.asDouble()));
                case "floordiv":
                    return new Value(lane, lane == 4 ? Math.floorDiv((int) a, (int) b) : Math.floorDiv(a, b));
                case "floormod":
                    return new Value(lane, lane == 4 ? Math.floorMod((int) a, (int) b) : Math.floorMod(a, b));
                case "addexact":
                    return new Value(lane, lane == 4 ? Math.addExact((int) a, (int) b) : Math.addExact(a, b));
                case "subexact":
                    return new Value(lane, lane == 4 ? Math.subtractExact((int) a, (int) b) : Math.subtractExact(a, b));
                case "mulexact":
                    return new Value(lane, lane == 4 ? Math.multiplyExact((int) a, (int) b) : Math.multiplyExact(a, b));
                case "bits":
                    return new Value(lane, lane == 4 ? Integer.bitCount((int) a) : Long.bitCount(a));
                case "high":
                    return new Value(lane, lane == 4 ? 31 - Integer.numberOfLeadingZeros((int) a) : 63 - Long.numberOfLeadingZeros(a));
                case "sqrt":
                    return real(7, Math.sqrt(x.asDouble()));
                case "floor":
                    return real(7, Math.floor(x.asDouble()));
                case "ceil":
                    return real(7, Math.ceil(x.asDouble()));
                default:
                    return real(7, Math.rint(x.asDouble()));
            }
        } catch (ArithmeticException e) {
            throw new Stop(8, -1);
        }
    }

    // ---- tokens

    record Token(String kind, int place, int end, String text, Value value) {
    }

    static List<Token> tokens(String s) {
        List<Token> list = new ArrayList<>();
        int p = 0;
        while (true) {
            while (p < s.length() && "\t\n\r ".indexOf(s.charAt(p)) >= 0) {
                p++;
            }
            if (p == s.length()) {
                list.add(new Token("end", p, p, "", null));
                return list;
            }
            Token t = token(s, p);
            list.add(t);
            if (t.kind.equals("none")) {
                return list;
            }
            p = t.end;
        }
    }

    private static Token token(String s, int p) {
        String rest = s.substring(p);
        java.util.regex.Matcher name = java.util.regex.Pattern.compile("^[a-z][a-zA-Z0-9]*").matcher(rest);
        if (name.find()) {
            String text = name.group();
            int e = p + text.length();
            for (int lane = 0; lane < 8; lane++) {
                if (Engine.LANES[lane].equals(text)) {
                    return new Token("lane", p, e, text, new Value(lane, 0));
                }
            }
            if (text.equals("true") || text.equals("false")) {
                return new Token("number", p, e, text, truth(text.equals("true")));
            }
            return new Token(text.length() > 12 ? "none" : "name", p, e, text, null);
        }
        java.util.regex.Matcher real = java.util.regex.Pattern.compile("^([0-9]+)\\.([0-9]+)(F?)").matcher(rest);
        if (real.find()) {
            String digits = real.group(1) + real.group(2);
            int e = p + real.group().length();
            if (digits.length() > 15) {
                return new Token("none", p, e, "", null);
            }
            double d = (double) Long.parseLong(digits) / Math.pow(10, real.group(2).length());
            return new Token("number", p, e, "", real.group(3).isEmpty() ? new Value(7, Engine.bits(d)) : new Value(6, Engine.bits((float) d)));
        }
        java.util.regex.Matcher digits = java.util.regex.Pattern.compile("^([0-9]+)(L?)").matcher(rest);
        if (digits.find()) {
            java.math.BigInteger n = new java.math.BigInteger(digits.group(1));
            boolean isLong = !digits.group(2).isEmpty();
            int e = p + digits.group().length();
            if (n.bitLength() > (isLong ? 63 : 31)) {
                return new Token("none", p, e, "", null);
            }
            return new Token("number", p, e, "", new Value(isLong ? 5 : 4, n.longValue()));
        }
        for (String sign : ">>> || && == != <= >= << >> ( ) , = ; ? : ~ ! | ^ & < > + - * / %".split(" ")) {
            if (rest.startsWith(sign)) {
                return new Token(sign, p, p + sign.length(), sign, null);
            }
        }
        return new Token("none", p, p + 1, "", null);
    }

    // ---- trees

    static final class Node {
        final String kind;
        final int place;
        final String text;
        final Value value;
        final List<Node> parts = new ArrayList<>();
        int lane;
        Function function;

        Node(String kind, int place, String text, Value value) {
            this.kind = kind;
            this.place = place;
            this.text = text;
            this.value = value;
        }

        int height() {
            int h = 0;
            for (Node n : parts) {
                h = Math.max(h, n.height());
            }
            return h + 1;
        }
    }

    static final class Function {
        String name;
        int place;
        int lane;
        List<Integer> lanes = new ArrayList<>();
        List<String> names = new ArrayList<>();
        List<Integer> places = new ArrayList<>();
        Node body;
    }

    // ---- the parser

    private List<Token> list;
    private int pos;

    private Token now() {
        return list.get(pos);
    }

    private Stop fault() {
        return new Stop(21, now().place);
    }

    private Token take(String kind) {
        if (!now().kind.equals(kind)) {
            throw fault();
        }
        Token t = now();
        pos++;
        return t;
    }

    static final String[][] LEVELS = {
        {"||"}, {"&&"}, {"|"}, {"^"}, {"&"}, {"==", "!="}, {"<", ">", "<=", ">="}, {"<<", ">>", ">>>"}, {"+", "-"}, {"*", "/", "%"}
    };

    private void notTooDeep(int depth) {
        if (depth > 25) {
            throw fault();
        }
    }

    private Node expression(int depth) {
        notTooDeep(depth);
        Node c = level(0, depth);
        if (!now().kind.equals("?")) {
            return c;
        }
        Node n = new Node("?", take("?").place, "?", null);
        n.parts.add(c);
        n.parts.add(expression(depth + 1));
        take(":");
        n.parts.add(expression(depth + 1));
        return n;
    }

    private Node level(int k, int depth) {
        if (k == LEVELS.length) {
            return prefix(depth);
        }
        Node left = level(k + 1, depth);
        while (List.of(LEVELS[k]).contains(now().kind)) {
            Node n = new Node("binary", now().place, now().kind, null);
            pos++;
            n.parts.add(left);
            n.parts.add(level(k + 1, depth));
            left = n;
        }
        return left;
    }

    private Node prefix(int depth) {
        notTooDeep(depth);
        Token t = now();
        if (List.of("-", "!", "~").contains(t.kind)) {
            pos++;
            Node n = new Node("unary", t.place, t.kind, null);
            n.parts.add(prefix(depth + 1));
            return n;
        }
        if (t.kind.equals("(") && list.get(pos + 1).kind.equals("lane")) {
            pos++;
            notTooDeep(depth + 1);
            Node n = new Node("cast", t.place, "", take("lane").value);
            take(")");
            n.parts.add(prefix(depth + 1));
            return n;
        }
        return primary(depth);
    }

    private Node primary(int depth) {
        Token t = now();
        switch (t.kind) {
            case "number":
                pos++;
                return new Node("number", t.place, "", t.value);
            case "(":
                pos++;
                Node inner = expression(depth + 1);
                take(")");
                return inner;
            case "name":
                pos++;
                if (!now().kind.equals("(")) {
                    return new Node("name", t.place, t.text, null);
                }
                pos++;
                Node call = new Node("call", t.place, t.text, null);
                call.parts.add(expression(depth + 1));
                while (now().kind.equals(",")) {
                    pos++;
                    call.parts.add(expression(depth + 1));
                }
                take(")");
                return call;
            default:
                throw fault();
        }
    }

    private Function function() {
        Function f = new Function();
        f.lane = take("lane").value.lane;
        Token name = take("name");
        f.name = name.text;
        f.place = name.place;
        take("(");
        while (true) {
            if (f.lanes.size() == 6) {
                throw fault();
            }
            f.lanes.add(take("lane").value.lane);
            Token p = take("name");
            f.names.add(p.text);
            f.places.add(p.place);
            if (now().kind.equals(")")) {
                break;
            }
            take(",");
        }
        take(")");
        take("=");
        f.body = expression(1);
        take(";");
        return f;
    }

    // ---- the state

    final List<Function> functions = new ArrayList<>();
    int born;
    final int[] boundLane = new int[8];
    final int[][] boundSize = new int[8][];
    final long[][] boundCells = new long[8][];
    int place = -1;
    int steps;
    int[] failed;
    int lane;
    int[] size;
    long[] cells;

    /** How many functions there are, or the refusal. */
    int functions(String text) {
        List<Function> added = new ArrayList<>();
        int before = functions.size();
        try {
            if (text.length() > 4000) {
                throw new Stop(21, 4000);
            }
            list = tokens(text);
            pos = 0;
            while (!now().kind.equals("end")) {
                if (born + added.size() == 40) {
                    throw fault();
                }
                added.add(function());
            }
            for (Function f : added) {
                checkFunction(f);
                functions.add(f);
            }
        } catch (Stop s) {
            while (functions.size() > before) {
                functions.remove(functions.size() - 1);
            }
            place = s.place;
            return -s.code;
        }
        born += added.size();
        place = -1;
        return functions.size();
    }

    private void checkFunction(Function f) {
        if (builtIn(f.name)) {
            throw new Stop(22, f.place);
        }
        for (Function g : functions) {
            if (g.name.equals(f.name) && g.lanes.equals(f.lanes)) {
                throw new Stop(22, f.place);
            }
        }
        for (int k = 0; k < f.names.size(); k++) {
            if (f.names.subList(0, k).contains(f.names.get(k))) {
                throw new Stop(22, f.places.get(k));
            }
        }
        if (f.body.height() > 30) {
            throw new Stop(22, f.place);
        }
        check(f.body, f);
        if (!fits(f.body.lane, f.lane)) {
            throw new Stop(22, f.place);
        }
    }

    private void check(Node n, Function f) {
        int[] lanes = new int[n.parts.size()];
        for (int k = 0; k < lanes.length; k++) {
            check(n.parts.get(k), f);
            lanes[k] = n.parts.get(k).lane;
        }
        n.lane = switch (n.kind) {
            case "number" -> n.value.lane;
            case "name" -> nameLane(n.text, f);
            case "cast" -> (n.value.lane == 0) == (lanes[0] == 0) ? n.value.lane : -1;
            case "unary" -> unaryLane(n.text, lanes[0]);
            case "binary" -> binaryLane(n.text, lanes[0], lanes[1]);
            case "?" -> lanes[0] != 0 ? -1 : lanes[1] == lanes[2] ? lanes[1]
                : number(lanes[1]) && number(lanes[2]) ? wider(lanes[1], lanes[2]) : -1;
            default -> callLane(n, lanes);
        };
        if (n.lane < 0) {
            throw new Stop(22, n.place);
        }
    }

    private int nameLane(String name, Function f) {
        if (f != null) {
            int k = f.names.indexOf(name);
            return k < 0 ? -1 : f.lanes.get(k);
        }
        if (name.length() == 1 && "ijkl".contains(name)) {
            return 4;
        }
        if (name.length() == 1 && "abcdefgh".contains(name) && boundCells[name.charAt(0) - 'a'] != null) {
            return boundLane[name.charAt(0) - 'a'];
        }
        return -1;
    }

    private static int unaryLane(String op, int lane) {
        return switch (op) {
            case "!" -> lane == 0 ? 0 : -1;
            case "~" -> whole(lane) ? Math.max(4, lane) : -1;
            default -> number(lane) ? Math.max(4, lane) : -1;
        };
    }

    static int binaryLane(String op, int a, int b) {
        boolean numbers = number(a) && number(b);
        boolean wholes = whole(a) && whole(b);
        boolean booleans = a == 0 && b == 0;
        return switch (op) {
            case "||", "&&" -> booleans ? 0 : -1;
            case "|", "^", "&" -> booleans ? 0 : wholes ? wider(a, b) : -1;
            case "==", "!=" -> booleans || numbers ? 0 : -1;
            case "<", ">", "<=", ">=" -> numbers ? 0 : -1;
            case "<<", ">>", ">>>" -> wholes ? Math.max(4, a) : -1;
            default -> numbers ? wider(a, b) : -1;
        };
    }

    private int callLane(Node n, int[] lanes) {
        if (builtIn(n.text)) {
            return builtInLane(n.text, lanes);
        }
        int k = choose(n.text, lanes);
        if (k < 0) {
            return -1;
        }
        n.function = functions.get(k);
        return n.function.lane;
    }

    int choose(String name, int[] lanes) {
        List<Integer> fitting = new ArrayList<>();
        for (int k = 0; k < functions.size(); k++) {
            Function f = functions.get(k);
            boolean fine = f.name.equals(name) && f.lanes.size() == lanes.length;
            for (int j = 0; fine && j < lanes.length; j++) {
                fine = fits(lanes[j], f.lanes.get(j));
            }
            if (fine) {
                fitting.add(k);
            }
        }
        int best = -16;
        for (int k : fitting) {
            boolean all = true;
            for (int m : fitting) {
                for (int j = 0; j < lanes.length; j++) {
                    all = all && fits(functions.get(k).lanes.get(j), functions.get(m).lanes.get(j));
                }
            }
            if (all) {
                best = k;
            }
        }
        return fitting.isEmpty() ? -15 : best;
    }

    // ---- runs

    private int[] spot;

    /** 0 if there is a result (in lane, size and cells), else the refusal. */
    int formula(String text) {
        failed = null;
        Node root;
        try {
            if (text.length() > 4000) {
                throw new Stop(21, 4000);
            }
            list = tokens(text);
            pos = 0;
            root = expression(1);
            take("end");
            if (root.height() > 30) {
                throw new Stop(22, list.get(0).place);
            }
            check(root, null);
        } catch (Stop s) {
            place = s.place;
            return -s.code;
        }
        steps = 0;
        if (!shape(root)) {
            return -3;
        }
        long many = 1;
        for (int s : size) {
            many *= s;
        }
        if (many > 100000) {
            return -12;
        }
        cells = new long[(int) many];
        lane = root.lane;
        for (int n = 0; n < many; n++) {
            spot = new int[size.length];
            int rest = n;
            for (int k = size.length - 1; k >= 0; k--) {
                spot[k] = rest % size[k];
                rest /= size[k];
            }
            try {
                cells[n] = value(root, null, null).bits;
            } catch (Stop s) {
                failed = spot;
                return -s.code;
            }
        }
        place = -1;
        return OK;
    }

    private void grids(Node n, List<Integer> found) {
        if (n.kind.equals("name") && n.text.charAt(0) <= 'h') {
            found.add(n.text.charAt(0) - 'a');
        }
        for (Node p : n.parts) {
            grids(p, found);
        }
    }

    private boolean shape(Node root) {
        List<Integer> used = new ArrayList<>();
        grids(root, used);
        int axes = 0;
        for (int g : used) {
            axes = Math.max(axes, boundSize[g].length);
        }
        size = new int[axes];
        for (int k = 1; k <= axes; k++) {
            int s = 1;
            for (int g : used) {
                int[] b = boundSize[g];
                int t = b.length >= k ? b[b.length - k] : 1;
                if (t != 1 && s != 1 && t != s) {
                    return false;
                }
                s = s == 1 ? t : s;
            }
            size[axes - k] = s;
        }
        return true;
    }

    private void step() {
        if (steps == 400000) {
            throw new Stop(10, -1);
        }
        steps++;
    }

    private Value value(Node n, Function f, Value[] args) {
        switch (n.kind) {
            case "number":
                return n.value;
            case "name":
                return f != null ? args[f.names.indexOf(n.text)] : operand(n.text.charAt(0));
            case "cast": {
                Value v = value(n.parts.get(0), f, args);
                step();
                return plainCast(v, n.lane);
            }
            case "unary": {
                Value v = value(n.parts.get(0), f, args);
                step();
                return unary(n.text, v);
            }
            case "?": {
                Value v = value(n.parts.get(0), f, args);
                step();
                return value(n.parts.get(v.bits == 1 ? 1 : 2), f, args).in(n.lane);
            }
            case "binary": {
                Value v = value(n.parts.get(0), f, args);
                if (n.text.equals("||") || n.text.equals("&&")) {
                    step();
                    return v.bits == (n.text.equals("||") ? 1 : 0) ? v : value(n.parts.get(1), f, args);
                }
                Value w = value(n.parts.get(1), f, args);
                step();
                return binary(n.text, v, w);
            }
            default: {
                Value[] values = new Value[n.parts.size()];
                for (int k = 0; k < values.length; k++) {
                    values[k] = value(n.parts.get(k), f, args);
                }
                step();
                if (n.function == null) {
                    return builtInValue(n.text, n.lane, values);
                }
                for (int k = 0; k < values.length; k++) {
                    values[k] = values[k].in(n.function.lanes.get(k));
                }
                return value(n.function.body, n.function, values).in(n.function.lane);
            }
        }
    }

    private Value operand(char letter) {
        if (letter >= 'i') {
            int k = size.length - 1 - (letter - 'i');
            return new Value(4, k < 0 ? 0 : spot[k]);
        }
        int g = letter - 'a';
        int[] b = boundSize[g];
        int n = 0;
        for (int k = 0; k < b.length; k++) {
            int index = spot[size.length - b.length + k];
            n = n * b[k] + (b[k] == 1 ? 0 : index);
        }
        return new Value(boundLane[g], boundCells[g][n]);
    }
}
