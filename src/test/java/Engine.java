import java.nio.charset.StandardCharsets;

/** Short ways to do with an engine what takes several calls. */
final class Engine {
    static final int BOOLEAN = 0;
    static final int BYTE = 1;
    static final int SHORT = 2;
    static final int CHAR = 3;
    static final int INT = 4;
    static final int LONG = 5;
    static final int FLOAT = 6;
    static final int DOUBLE = 7;
    static final String[] LANES = {"boolean", "byte", "short", "char", "int", "long", "float", "double"};

    private Engine() {
    }

    // What stands in the tray behind the bytes that count: an engine that reads on is found out.
    private static final byte[] RUBBISH = "0:1) \"\n*,+2; ".getBytes(StandardCharsets.ISO_8859_1);
    private static int fed = 0;

    /** Puts bytes behind what the tray has. */
    static void feed(GridEngine x, byte[] bytes) {
        fed++;
        int before = x.feed(0, 0, 0, 0, 0) - 20;
        x.end(before);
        for (int from = 0; from <= bytes.length; from += 20) {
            int[] words = new int[5];
            for (int k = 0; k < 20; k++) {
                int b = (from + k < bytes.length ? bytes[from + k] : RUBBISH[(fed + from + k) % RUBBISH.length]) & 255;
                words[k / 4] = words[k / 4] << 8 | b;
            }
            x.feed(words[0], words[1], words[2], words[3], words[4]);
        }
        x.end(before + bytes.length);
    }

    static void feed(GridEngine x, String text) {
        feed(x, text.getBytes(StandardCharsets.ISO_8859_1));
    }

    /** A grid of sizes whose cells have bits in row order. */
    static int grid(GridEngine x, int lane, int[] sizes, long... bits) {
        for (int size : sizes) {
            x.axis(size);
        }
        int g = x.grid(lane);
        int[] spot = new int[sizes.length];
        for (long b : bits) {
            for (int index : spot) {
                x.at(index);
            }
            if (x.put(g, lane, b) != 0) {
                throw new IllegalStateException("put refused");
            }
            for (int k = sizes.length - 1; k >= 0; k--) {
                spot[k]++;
                if (spot[k] < sizes[k]) {
                    break;
                }
                spot[k] = 0;
            }
        }
        return g;
    }

    static int row(GridEngine x, int lane, long... bits) {
        return grid(x, lane, new int[] {bits.length}, bits);
    }

    static int ints(GridEngine x, int... values) {
        long[] bits = new long[values.length];
        for (int k = 0; k < bits.length; k++) {
            bits[k] = values[k];
        }
        return row(x, INT, bits);
    }

    static int doubles(GridEngine x, double... values) {
        long[] bits = new long[values.length];
        for (int k = 0; k < bits.length; k++) {
            bits[k] = Double.doubleToRawLongBits(values[k]);
        }
        return row(x, DOUBLE, bits);
    }

    static int floats(GridEngine x, float... values) {
        long[] bits = new long[values.length];
        for (int k = 0; k < bits.length; k++) {
            bits[k] = Float.floatToRawIntBits(values[k]) & 0xffffffffL;
        }
        return row(x, FLOAT, bits);
    }

    static long[] cells(GridEngine x, int g) {
        long[] cells = new long[Math.max(0, x.cells(g))];
        for (int n = 0; n < cells.length; n++) {
            cells[n] = x.cell(g, n);
        }
        return cells;
    }

    static String shape(GridEngine x, int g) {
        StringBuilder text = new StringBuilder();
        for (int k = 0; k < x.axes(g); k++) {
            text.append(k == 0 ? "" : "x").append(x.size(g, k));
        }
        return text.toString();
    }

    static int view(GridEngine x, int g, String text) {
        feed(x, text);
        return x.view(g);
    }

    static int formula(GridEngine x, String text) {
        feed(x, text);
        return x.formula();
    }

    static int functions(GridEngine x, String text) {
        feed(x, text);
        return x.functions();
    }

    static int choose(GridEngine x, String name, int... lanes) {
        for (int lane : lanes) {
            x.axis(lane);
        }
        feed(x, name);
        return x.choose();
    }

    static int table(GridEngine x, String text) {
        feed(x, text);
        return x.table();
    }

    static int named(GridEngine x, int t, String name) {
        feed(x, name);
        return x.named(t);
    }

    static int keep(GridEngine x, int g, String name) {
        feed(x, name);
        return x.keep(g);
    }

    static int open(GridEngine x, String name) {
        feed(x, name);
        return x.open();
    }

    /** What was written last. */
    static byte[] written(GridEngine x, int many) {
        byte[] bytes = new byte[Math.max(0, many)];
        for (int k = 0; k < bytes.length; k++) {
            bytes[k] = (byte) x.out(k);
        }
        return bytes;
    }

    static String writtenText(GridEngine x, int many) {
        return new String(written(x, many), StandardCharsets.ISO_8859_1);
    }

    static long bits(double value) {
        return Double.doubleToRawLongBits(value);
    }

    static long bits(float value) {
        return Float.floatToRawIntBits(value) & 0xffffffffL;
    }
}
