/** Where numbers wrap: whole ones, the lowest bits of a width, the TOTAL, and what is taken modulo w and h. */
public final class WrapTest {
    private static final int MIN = Integer.MIN_VALUE;
    private static final int MAX = Integer.MAX_VALUE;
    private static final int ROUND = 2;
    private static final int MIRROR = 3;
    private static final int ADD = 5;
    private static final int PUT = 6;
    private static final int RAISE = 7;

    private static final int[] WIDTHS = {8, 16, 16, 32, 64};
    private static final long[] EDGES = edges();

    public static void main(String[] args) {
        ints();
        longs();
        narrowKinds();
        intsWithLongs();
        for (int kind = 0; kind < 5; kind++) {
            lowestBitsOfSet(kind);
            lowestBitsOfPut(kind);
            for (int to = 0; to < 5; to++) {
                lowestBitsOfTurn(kind, to);
            }
        }
        lowestBitOfMarks();
        lowestBitsOfFloats();
        putOfReals();
        total();
        modulo();
        mirror();
        Due.end("WrapTest");
    }

    /** All powers of two and what is beside them, of both signs. */
    private static long[] edges() {
        long[] all = new long[64 * 6];
        for (int k = 0; k < 64; k++) {
            for (int beside = -1; beside < 2; beside++) {
                all[6 * k + 2 * (beside + 1)] = (1L << k) + beside;
                all[6 * k + 2 * (beside + 1) + 1] = -(1L << k) + beside;
            }
        }
        return all;
    }

    private static void reckons(int kind, int other, long a, long b, int op, int wider, long due) {
        Calls c = new Calls();
        c.give(0, kind, a);
        c.give(1, other, b);
        c.yes("19 " + a + ", " + b, "reckon", op, 0, 1, 2);
        c.cells("19 op " + op + " of " + a + ", " + b, 2, wider, due);
    }

    /** "whole ones wrap"; "Whole / goes towards 0, % has the sign of the first one". */
    private static void ints() {
        int[] edges = {MIN, MIN + 1, -7, -2, -1, 1, 2, 7, 65536, MAX - 1, MAX};
        for (int a : edges) {
            for (int b : edges) {
                int[] due = {a + b, a - b, a * b, a / b, a % b, Math.min(a, b), Math.max(a, b)};
                for (int op = 0; op < 7; op++) {
                    reckons(Due.INT, Due.INT, a, b, op, Due.INT, due[op]);
                }
            }
        }
        reckons(Due.INT, Due.INT, MAX, 1, 0, Due.INT, MIN);
        reckons(Due.INT, Due.INT, MIN, 1, 1, Due.INT, MAX);
        reckons(Due.INT, Due.INT, 65536, 65536, 2, Due.INT, 0);
        reckons(Due.INT, Due.INT, MIN, -1, 3, Due.INT, MIN);
        reckons(Due.INT, Due.INT, MIN, -1, 4, Due.INT, 0);
        reckons(Due.INT, Due.INT, -7, 2, 3, Due.INT, -3);
        reckons(Due.INT, Due.INT, -7, 2, 4, Due.INT, -1);
        reckons(Due.INT, Due.INT, 7, -2, 4, Due.INT, 1);
    }

    private static void longs() {
        long least = Long.MIN_VALUE;
        long most = Long.MAX_VALUE;
        long[] edges = {least, least + 1, MIN - 1L, -7, -2, -1, 1, 2, 7, MAX + 1L, 1L << 32, most - 1, most};
        for (long a : edges) {
            for (long b : edges) {
                long[] due = {a + b, a - b, a * b, a / b, a % b, Math.min(a, b), Math.max(a, b)};
                for (int op = 0; op < 7; op++) {
                    reckons(Due.LONG, Due.LONG, a, b, op, Due.LONG, due[op]);
                }
            }
        }
        reckons(Due.LONG, Due.LONG, most, 1, 0, Due.LONG, least);
        reckons(Due.LONG, Due.LONG, least, 1, 1, Due.LONG, most);
        reckons(Due.LONG, Due.LONG, 1L << 32, 1L << 32, 2, Due.LONG, 0);
        reckons(Due.LONG, Due.LONG, least, -1, 3, Due.LONG, least);
        reckons(Due.LONG, Due.LONG, least, -1, 4, Due.LONG, 0);
    }

    /** "else LONG, else INT": BYTES, SIGNS and SHORTS do not wrap by their own width. */
    private static void narrowKinds() {
        long[] least = {-128, 0, -32768};
        long[] most = {127, 65535, 32767};
        for (int a = 0; a < 3; a++) {
            for (int b = 0; b < 3; b++) {
                reckons(a, b, most[a], most[b], 0, Due.INT, most[a] + most[b]);
                reckons(a, b, least[a], most[b], 1, Due.INT, least[a] - most[b]);
                reckons(a, b, most[a], most[b], 2, Due.INT, (int) (most[a] * most[b]));
            }
        }
        reckons(Due.SIGN, Due.SIGN, 65535, 65535, 2, Due.INT, -131071);
        reckons(Due.BYTE, Due.BYTE, -128, -1, 3, Due.INT, 128);
        reckons(Due.SHORT, Due.SHORT, -32768, -1, 3, Due.INT, 32768);
    }

    private static void intsWithLongs() {
        for (int kind = 0; kind < 4; kind++) {
            reckons(kind, Due.LONG, 1, MAX, 0, Due.LONG, 2147483648L);
            reckons(Due.LONG, kind, MAX, 1, 0, Due.LONG, 2147483648L);
            reckons(kind, Due.LONG, 1, Long.MAX_VALUE, 0, Due.LONG, Long.MIN_VALUE);
        }
        reckons(Due.INT, Due.LONG, MIN, -1, 3, Due.LONG, 2147483648L);
    }

    private static long lowest(int kind, long v) {
        int up = 64 - WIDTHS[kind];
        return kind == Due.SIGN ? v << up >>> up : v << up >> up;
    }

    /** "KINDS 0 to 4 keep the lowest bits of their width". */
    private static void lowestBitsOfSet(int kind) {
        for (long v : EDGES) {
            Calls c = new Calls();
            c.give(0, kind, v);
            c.answers("12 KIND " + kind + " of " + v, lowest(kind, v), "get", 0, kind, 0);
        }
    }

    private static void lowestBitsOfPut(int kind) {
        for (long v : EDGES) {
            Calls c = new Calls();
            c.ask("band", 0, kind, 1);
            c.ask("step", PUT, 0, (int) v, 0);
            c.yes("32 PUT", "job");
            c.answers("32 PUT, KIND " + kind + " of " + (int) v, lowest(kind, (int) v), "get", 0, kind, 0);
        }
    }

    /** "whole to whole: the lowest bits of its width". */
    private static void lowestBitsOfTurn(int kind, int to) {
        for (long v : EDGES) {
            Calls c = new Calls();
            c.give(0, kind, v);
            c.yes("23", "turn", to, 0, 1);
            c.cells("23 KIND " + kind + " of " + v, 1, to, lowest(to, lowest(kind, v)));
        }
    }

    /** "a MARK is true if the lowest bit is 1". */
    private static void lowestBitOfMarks() {
        for (long v : EDGES) {
            Calls c = new Calls();
            c.give(0, Due.MARK, v);
            c.answers("12 MARK of " + v, v & 1, "get", 0, Due.MARK, 0);
            c.ask("step", PUT, 0, (int) v, 0);
            c.ask("job");
            c.answers("32 PUT, MARK of " + (int) v, v & 1, "get", 0, Due.MARK, 0);
        }
    }

    /** "a FLOAT its 32 bits as an int", "a FLOAT has the lowest 32 bits". */
    private static void lowestBitsOfFloats() {
        long[] above = {0, 1, -1, 0x7ff80000L, MIN, MAX};
        float[] values = {0f, -0f, 1f, -1.5f, Float.MIN_VALUE, -Float.MIN_VALUE, Float.MAX_VALUE, Float.POSITIVE_INFINITY, Float.NEGATIVE_INFINITY};
        for (long high : above) {
            for (float f : values) {
                int bits = Float.floatToRawIntBits(f);
                Calls c = new Calls();
                c.give(0, Due.FLOAT, high << 32 | bits & 0xffffffffL);
                c.answers("12 FLOAT of " + f, bits, "get", 0, Due.FLOAT, 0);
            }
        }
    }

    /** PUT gives an int's bits: a FLOAT by all of them, a DOUBLE by the long that it is. */
    private static void putOfReals() {
        int[] bits = {0, 1, MAX, 0x3f800000, MIN, -1, 0xff800000, 0x7f800000, 0x7f800001};
        for (int b : bits) {
            Calls c = new Calls();
            c.ask("band", 0, Due.FLOAT, 1);
            c.ask("band", 1, Due.DOUBLE, 1);
            c.steps(new int[] {PUT, 0, b, 0}, new int[] {PUT, 1, b, 0});
            c.yes("32 PUT", "job");
            c.answers("32 PUT, FLOAT of " + b, Float.floatToIntBits(Float.intBitsToFloat(b)), "get", 0, Due.FLOAT, 0);
            c.answers("32 PUT, DOUBLE of " + b, Double.doubleToLongBits(Double.longBitsToDouble(b)), "get", 1, Due.DOUBLE, 0);
        }
    }

    private static void totals(long due, int kind, long... cells) {
        Calls c = new Calls();
        c.give(0, kind, cells);
        for (int i = 0; i < cells.length; i++) {
            c.ask("step", ADD, 0, kind, i);
        }
        c.yes("32 ADD", "job");
        Due.is("34 KIND " + kind, c.ask("total"), due);
        for (int i = 0; i < cells.length; i++) {
            c.ask("step", ADD, 0, kind, i);
        }
        c.ask("step", RAISE, 0, 0, 0);
        c.no("32 ADD, RAISE", Due.RAISED, "job");
        Due.is("34 also of one that ended with a FAULT", c.ask("total"), due);
    }

    /** "BITS added, they wrap". */
    private static void total() {
        totals(Long.MIN_VALUE, Due.LONG, Long.MAX_VALUE, 1);
        totals(Long.MAX_VALUE, Due.LONG, Long.MIN_VALUE, -1);
        totals(0, Due.LONG, Long.MIN_VALUE, Long.MIN_VALUE);
        totals(2147483648L, Due.INT, MAX, 1);
        totals(254, Due.BYTE, 127, 127);
        totals(131070, Due.SIGN, 65535, 65535);
        totals(-65536, Due.SHORT, -32768, -32768);
        totals(2, Due.MARK, 1, 0, 1);
        totals((long) MIN + MIN, Due.FLOAT, Due.bits(-0f), Due.bits(-0f));
        totals(2 * 0x7fc00000L, Due.FLOAT, -1, 0x7f800001L);
        totals(0, Due.DOUBLE, Due.bits(-0.0), Due.bits(-0.0));
        totals(0x7ff8000000000000L, Due.DOUBLE, -1);
        totals(2 * 0x7ff8000000000000L, Due.DOUBLE, -1, 0x7ff0000000000001L);
    }

    /** Lines of w cells whose cells tell their own numbers; one cell is left over where w is more than 1. */
    private static Calls grid(int w, int h) {
        Calls c = new Calls();
        int n = w * h + (w > 1 ? 1 : 0);
        c.ask("band", 0, Due.SHORT, n);
        for (int i = 0; i < n; i++) {
            c.ask("set", 0, Due.SHORT, i, i);
        }
        return c;
    }

    private static void reads(Calls c, int reader, int w, double x, double y, int cell) {
        c.answers("29 reader " + reader + ", w " + w, Due.bits((double) cell), "sample", reader, 0, w, Due.bits(x), Due.bits(y));
    }

    /** "i is taken modulo w, j modulo h first (from 0 up ..)": around 0 and at the farthest whole numbers. */
    private static void modulo() {
        int[][] sizes = {{1, 1}, {1, 3}, {3, 1}, {2, 2}, {3, 4}, {7, 2}};
        long[] around = {-999999999, -999999998, -999999997, -8, -7, -6, -5, -4, -3, -2, -1, 0, 1, 2, 3, 4, 5, 6, 7, 8, 999999998, 999999999};
        for (int[] size : sizes) {
            int w = size[0];
            int h = size[1];
            for (long at : around) {
                Calls c = grid(w, h);
                reads(c, ROUND, w, at, 0, (int) Math.floorMod(at, (long) w));
                reads(c, ROUND, w, 0, at, w * (int) Math.floorMod(at, (long) h));
                reads(c, ROUND, w, at, at, w * (int) Math.floorMod(at, (long) h) + (int) Math.floorMod(at, (long) w));
                reads(c, ROUND, w, at - 0.5, -at - 0.5, w * (int) Math.floorMod(-at, (long) h) + (int) Math.floorMod(at, (long) w));
            }
        }
        Calls c = grid(3, 4);
        reads(c, ROUND, 3, 3, 4, 0);
        reads(c, ROUND, 3, 2.5, 3.5, 0);
        reads(c, ROUND, 3, Math.nextDown(2.5), Math.nextDown(3.5), 11);
        reads(c, ROUND, 3, -1, -1, 11);
        reads(c, ROUND, 3, -0.5, -0.5, 0);
        reads(c, ROUND, 3, Math.nextDown(-0.5), Math.nextDown(-0.5), 11);
        reads(c, ROUND, 3, 999999999.5, 0, 1);
        reads(c, ROUND, 3, -999999999.5, 0, 0);
        reads(c, ROUND, 3, Math.nextUp(-1e9), 0, 2);
    }

    /** "as ROUND does, of |x| and |y|". */
    private static void mirror() {
        Calls c = grid(3, 4);
        double[] at = {0, 0.49, 0.5, 1, 2, 2.5, 3, 4, 5.75, 11.5, 999999999};
        for (double x : at) {
            for (int sign = -1; sign < 2; sign += 2) {
                int i = (int) Math.floor(x + 0.5) % 3;
                int j = (int) Math.floor(x + 0.5) % 4;
                reads(c, MIRROR, 3, sign * x, 0, i);
                reads(c, MIRROR, 3, 0, sign * x, 3 * j);
                reads(c, MIRROR, 3, sign * x, -sign * x, 3 * j + i);
            }
        }
        reads(c, MIRROR, 3, -0.5, 0, 1);
        reads(c, MIRROR, 3, Math.nextUp(-0.5), 0, 1);
        reads(c, MIRROR, 3, -0.0, -0.0, 0);
        reads(c, MIRROR, 3, -1, -1, 4);
        reads(c, MIRROR, 3, -3, -4, 0);
    }
}
