import java.util.function.IntSupplier;

/** Refused calls: the answer that is due, and that all grids, tables, what was written and the log stay as they were. */
final class Refused {
    private static final int LOOKED_AT = 60;

    private Refused() {
    }

    static void due(GridEngine x, String call, IntSupplier made, int want) {
        String before = state(x);
        Due.due(call, made.getAsInt(), want);
        Due.due(call + ": all stays", changed(before, state(x)), "");
    }

    /** What follows behind the place at which two texts part. */
    private static String changed(String before, String after) {
        int same = 0;
        while (same < Math.min(before.length(), after.length()) && before.charAt(same) == after.charAt(same)) {
            same++;
        }
        return after.equals(before) ? "" : "at " + same + ": " + after.substring(same, Math.min(after.length(), same + LOOKED_AT));
    }

    /** What stands in an engine; of what is long some cells and bytes. */
    static String state(GridEngine x) {
        StringBuilder text = new StringBuilder();
        text.append("log ").append(x.logged()).append(" out");
        int many = 0;
        while (x.out(many) >= 0) {
            many++;
        }
        text.append(many);
        for (int i = 0; i < many; i += 1 + many / LOOKED_AT) {
            text.append(' ').append(x.out(i));
        }
        for (int g = 1; g <= 401; g++) {
            grid(x, g, text);
        }
        for (int t = 1; t <= 41; t++) {
            text.append(x.rows(t) < 0 ? "" : " table " + t + " of rows " + x.rows(t));
            for (int c = 0; x.columnLane(t, c) >= 0; c++) {
                text.append(' ').append(x.columnLane(t, c));
            }
        }
        return text.toString();
    }

    private static void grid(GridEngine x, int g, StringBuilder text) {
        int cells = x.cells(g);
        if (cells >= 0) {
            text.append(" grid ").append(g).append(" of lane ").append(x.lane(g)).append(' ').append(Engine.shape(x, g)).append(':');
            for (int n = 0; n < cells; n += 1 + cells / LOOKED_AT) {
                text.append(x.cell(g, n)).append(' ');
            }
        }
    }
}
