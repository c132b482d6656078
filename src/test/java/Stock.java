/** What a place may hold, by what holds() answers of it. */
final class Stock {
    static final int EMPTY = -1;
    static final int ROW = 8;
    static final int TABLE = 12;
    static final int SCALE = 13;

    private static final String[] NAMES = {
        "EMPTY", "BYTES", "SIGNS", "SHORTS", "INTS", "LONGS", "FLOATS", "DOUBLES", "MARKS", "ROW", "ROW of LINES",
        "ROW of POINTS", "ROW of PEAKS", "TABLE", "SCALE"};

    static String name(int tag) {
        return NAMES[tag + 1];
    }

    /** n cells, FEATURES or LINES (of 2 numbers), none of them 0 or VOID. */
    static void put(Calls c, int p, int tag, int n) {
        if (tag == EMPTY) {
            c.ask("clear", p);
        } else if (tag < ROW) {
            putBand(c, p, tag, n);
        } else if (tag < TABLE) {
            putRow(c, p, tag - ROW, n);
        } else if (tag == TABLE) {
            putTable(c, p, n);
        } else {
            c.ask("scale", p, Due.bits(2.0), Due.bits(1.0));
        }
    }

    private static void putBand(Calls c, int p, int kind, int n) {
        c.ask("band", p, kind, n);
        for (int i = 0; i < n; i++) {
            c.ask("set", p, kind, i, bitsOf(kind, 10 * p + 2 * i + 1));
        }
    }

    /** PEAKS, where they can be held: they can be taken for the most. */
    private static void putRow(Calls c, int p, int sort, int n) {
        c.ask("row", p, sort, n);
        for (int i = 0; i < n; i++) {
            c.ask("feature", p, i, sort == 1 ? 1 : 3, 10 * p + 2 * i + 1);
        }
    }

    private static void putTable(Calls c, int p, int n) {
        c.ask("table", p, n, 2);
        for (int i = 0; i < n; i++) {
            c.ask("enter", p, i, 0, 10 * p + 2 * i + 1);
        }
    }

    /** A whole number as a cell's BITS. */
    static long bitsOf(int kind, long v) {
        return kind == Due.FLOAT ? Due.bits((float) v) : kind == Due.DOUBLE ? Due.bits((double) v) : kind == Due.MARK ? v & 1 : v;
    }
}
