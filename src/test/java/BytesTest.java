import java.io.ByteArrayOutputStream;
import java.util.Arrays;
import java.util.Random;
import java.util.zip.CRC32;

/** Promises 46 to 48: a grid's bytes, written and read. */
final class BytesTest {
    private static final Random RANDOM = new Random(17);
    private static final int[] WIDTH = {1, 1, 2, 2, 4, 8, 4, 8};

    private BytesTest() {
    }

    public static void main(String[] args) {
        written();
        faults();
        rooms();
        for (int round = 0; round < 500; round++) {
            thereAndBack();
        }
        Due.finish();
    }

    private static byte[] checked(int... body) {
        byte[] bytes = new byte[body.length + 4];
        for (int k = 0; k < body.length; k++) {
            bytes[k] = (byte) body[k];
        }
        CRC32 crc = new CRC32();
        crc.update(bytes, 0, body.length);
        for (int k = 0; k < 4; k++) {
            bytes[body.length + k] = (byte) (crc.getValue() >> (24 - 8 * k));
        }
        return bytes;
    }

    private static byte[] encoded(int lane, int[] sizes, long[] cells) {
        ByteArrayOutputStream out = new ByteArrayOutputStream();
        out.write(71);
        out.write(82);
        out.write(lane);
        out.write(sizes.length);
        for (int s : sizes) {
            out.write(s >> 8);
            out.write(s);
        }
        for (long c : cells) {
            for (int k = WIDTH[lane] - 1; k >= 0; k--) {
                out.write((int) (c >> (8 * k)));
            }
        }
        byte[] body = out.toByteArray();
        int[] ints = new int[body.length];
        Arrays.setAll(ints, k -> body[k]);
        return checked(ints);
    }

    private static void same(String what, byte[] got, byte[] want) {
        Due.due(what + " (how many)", got.length, want.length);
        Due.due(what, Arrays.equals(got, want), true);
    }

    private static void written() {
        GridEngine x = new GridEngine();
        int g = Engine.grid(x, 2, new int[] {1, 2}, -2, 300);
        int n = x.bytes(g);
        Due.due("bytes", n, 4 + 4 + 4 + 4);
        same("bytes", Engine.written(x, n), checked(71, 82, 2, 2, 0, 1, 0, 2, 255, 254, 1, 44));
        Due.due("out(8)", x.out(8), 255);
        Due.due("out(16)", x.out(16), -1);
        Due.due("bytes of none", x.bytes(99), -14);
        Due.due("what was written stays", x.out(0), 71);
        int v = Engine.view(x, g, "0,::-1");
        same("of a view", Engine.written(x, x.bytes(v)), checked(71, 82, 2, 1, 0, 2, 1, 44, 255, 254));
        int s = x.grid(0);
        same("no axes", Engine.written(x, x.bytes(s)), checked(71, 82, 0, 0, 0));
        int none = Engine.grid(x, 7, new int[] {0, 4096});
        same("no cells", Engine.written(x, x.bytes(none)), checked(71, 82, 7, 2, 0, 0, 16, 0));
        x.crash(0);
        Due.due("bytes, closed", x.bytes(99), -13);
        Due.due("out", x.out(0), -1);
        Engine.feed(x, checked(71, 82, 0, 0, 1));
        Due.due("read, closed", x.read(), -13);
        x.reopen();
        int r = x.read();
        Due.due("the tray stayed", x.cell(r, 0), 1);
    }

    private static void fault(byte[] bytes, int place) {
        GridEngine x = new GridEngine();
        Engine.feed(x, bytes);
        Due.due("read", x.read(), -20);
        Due.due("place of " + Arrays.toString(bytes), x.place(), place);
        Due.due("none is made", x.lane(1), -14);
        Due.due("the tray is used up", x.end(1), -1);
    }

    private static void faults() {
        fault(new byte[0], 0);
        fault(new byte[] {71}, 0);
        fault(new byte[] {71, 82, 0, 0, 1}, 1);
        fault(Arrays.copyOf(checked(71, 82, 0), 7), 3);
        fault(new byte[] {71, 82, 0, 0, 0, 0, 0, 0}, 4);
        byte[] wrong = checked(71, 82, 0, 0, 1);
        wrong[8]++;
        fault(wrong, 5);
        wrong = checked(70, 82, 9, 9, 1);
        wrong[4] ^= 1;
        fault(wrong, 5);
        fault(checked(70, 81, 8, 5), 0);
        fault(checked(71, 81, 8, 5), 1);
        fault(checked(71, 82, 8, 5), 2);
        fault(checked(71, 82, 255, 5), 2);
        fault(checked(71, 82, 7, 5), 3);
        fault(checked(71, 82, 7, 128), 3);
        fault(checked(71, 82, 4, 1), 4);
        fault(checked(71, 82, 4, 1, 0), 4);
        fault(checked(71, 82, 4, 1, 16, 1), 4);
        fault(checked(71, 82, 4, 1, 255, 255), 4);
        fault(checked(71, 82, 4, 2, 0, 1, 16), 6);
        fault(checked(71, 82, 4, 2, 0, 1, 16, 1), 6);
        fault(checked(71, 82, 4, 2, 16, 0, 16, 0), 8);
        fault(checked(71, 82, 4, 4, 16, 0, 16, 0, 16, 0, 16, 0, 1, 2, 3, 4, 5), 16);
        fault(checked(71, 82, 4, 4, 16, 0, 16, 0, 16, 0, 16, 0, 1, 2, 3), 12);
        fault(checked(71, 82, 4, 0), 4);
        fault(checked(71, 82, 4, 0, 1, 2, 3), 4);
        fault(checked(71, 82, 4, 0, 1, 2, 3, 4, 5), 8);
        fault(checked(71, 82, 4, 1, 0, 0, 5), 6);
        fault(checked(71, 82, 0, 1, 0, 2, 1, 2), 7);
        fault(checked(71, 82, 0, 1, 0, 2, 255, 2), 6);
        fault(checked(71, 82, 6, 0, 0x7f, 0x80, 0, 1), 4);
        fault(checked(71, 82, 6, 0, 0xff, 0xc0, 0, 0), 4);
        fault(checked(71, 82, 7, 1, 0, 2, 0, 0, 0, 0, 0, 0, 0, 0, 0xff, 0xf0, 0, 0, 0, 0, 0, 1), 14);
        GridEngine x = new GridEngine();
        Engine.feed(x, checked(71, 82, 6, 0, 0xff, 0x80, 0, 0));
        Due.due("an infinite float", x.cell(x.read(), 0), 0xff800000L);
        Due.due("place", x.place(), -1);
        Engine.feed(x, checked(71, 82, 3, 0, 255, 254));
        Due.due("a char", x.cell(x.read(), 0), 65534);
        Engine.feed(x, checked(71, 82, 1, 0, 255));
        Due.due("a byte", x.cell(x.read(), 0), -1);
    }

    private static void rooms() {
        GridEngine x = new GridEngine();
        int g = Engine.grid(x, 0, new int[] {100, 299});
        Due.due("29912 bytes", x.bytes(g), 8 + 4 + 29900);
        Due.due("30000 bytes", x.bytes(Engine.grid(x, 1, new int[] {12, 2499})), 30000);
        Due.due("30001 bytes and more", x.bytes(Engine.grid(x, 1, new int[] {13, 2307})), -12);
        Due.due("what was written stays", x.out(29999) >= 0, true);
        GridEngine y = new GridEngine();
        for (int n = 0; n < 400; n++) {
            y.grid(0);
        }
        Engine.feed(y, checked(71, 82, 0, 0, 1));
        Due.due("no room", y.read(), -12);
        Engine.feed(y, checked(71, 82, 0, 0, 2));
        Due.due("a fault before 12", y.read(), -20);
        GridEngine z = new GridEngine();
        Engine.grid(z, 0, new int[] {2500, 39});
        Engine.grid(z, 0, new int[] {2499});
        int[] cells = new int[6 + 2];
        System.arraycopy(new int[] {71, 82, 0, 1, 0, 2, 1, 1}, 0, cells, 0, 8);
        Engine.feed(z, checked(cells));
        Due.due("no room for cells", z.read(), -12);
    }

    private static void thereAndBack() {
        GridEngine x = new GridEngine();
        int lane = RANDOM.nextInt(8);
        int[] sizes = new int[RANDOM.nextInt(5)];
        int many = 1;
        for (int k = 0; k < sizes.length; k++) {
            sizes[k] = RANDOM.nextInt(4);
            many *= sizes[k];
        }
        long[] cells = new long[many];
        for (int k = 0; k < many; k++) {
            cells[k] = ArithmeticTest.randomBits(lane);
        }
        int g = Engine.grid(x, lane, sizes, cells);
        byte[] bytes = Engine.written(x, x.bytes(g));
        same("bytes", bytes, encoded(lane, sizes, cells));
        Engine.feed(x, bytes);
        int h = x.read();
        Due.due("read", h, 2);
        Due.due("lane", x.lane(h), lane);
        Due.due("shape", Engine.shape(x, h), Engine.shape(x, g));
        Due.due("cells", Engine.cells(x, h), cells);
    }
}
