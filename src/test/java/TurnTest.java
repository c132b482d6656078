/** Promises 23 to 28: turn, bits, math, fuse, apply, stat. */
public final class TurnTest {
    private static final double INF = Double.POSITIVE_INFINITY;
    private static final double NAN = Double.NaN;
    private static final float FINF = Float.POSITIVE_INFINITY;

    public static void main(String[] args) {
        turnWholes();
        turnReals();
        turnMarks();
        turnFaults();
        bits();
        mathDoubles();
        mathFloats();
        mathOthers();
        fuse();
        apply();
        stat();
        Due.end("TurnTest");
    }

    private static void turnWholes() {
        LayerHouse h = new LayerHouse();
        Due.wholes(h, 0, Due.LONG, 200, -1, 70000, 0x180000000L, Long.MIN_VALUE);
        long[][] due = {{-56, -1, 112, 0, 0}, {200, 65535, 4464, 0, 0}, {200, -1, 4464, 0, 0},
            {200, -1, 70000, -2147483648L, 0}, {200, -1, 70000, 0x180000000L, Long.MIN_VALUE}};
        for (int kind = 0; kind < 5; kind++) {
            Due.yes("23 LONG to " + kind, h, h.turn(kind, 0, 1));
            Due.holds("23 LONG to " + kind, h, 1, kind, due[kind]);
        }
        h.turn(Due.FLOAT, 0, 1);
        Due.holdsFloats("23 LONG to FLOAT", h, 1, 200f, -1f, 70000f, 6442450944f, -9.223372036854775808e18f);
        h.turn(Due.DOUBLE, 0, 1);
        Due.holdsDoubles("23 LONG to DOUBLE", h, 1, 200, -1, 70000, 6442450944.0, -9.223372036854775808e18);
        Due.wholes(h, 0, Due.LONG, 16777217, 16777219, 9007199254740993L, 9007199254740995L, Long.MAX_VALUE, 0x7fffffbfffffffffL);
        h.turn(Due.FLOAT, 0, 1);
        Due.holdsFloats("23 rounded once", h, 1, 16777216f, 16777220f, 9007199254740992f, 9007199254740995f, 9.223372036854775807e18f,
            (float) 0x7fffffbfffffffffL);
        h.turn(Due.DOUBLE, 0, 1);
        Due.holdsDoubles("23 even in the middle", h, 1, 16777217, 16777219, 9007199254740992.0, 9007199254740996.0, 9.223372036854775807e18,
            (double) 0x7fffffbfffffffffL);
        Due.wholes(h, 0, Due.SIGN, 65535, 128);
        h.turn(Due.SHORT, 0, 0);
        Due.holds("23 SIGN to SHORT, r may be p", h, 0, Due.SHORT, -1, 128);
    }

    private static void turnReals() {
        LayerHouse h = new LayerHouse();
        Due.doubles(h, 0, 1.9, -1.9, NAN, INF, -INF, 3e9, -3e9, 200.7, 70000.5, -0.0, 1e19, -1e19, 9.2e18);
        long most = Integer.MAX_VALUE;
        long least = Integer.MIN_VALUE;
        long[][] due = {{1, -1, 0, -1, 0, -1, 0, -56, 112, 0, -1, 0, -1},
            {1, 65535, 0, 65535, 0, 65535, 0, 200, 4464, 0, 65535, 0, 65535},
            {1, -1, 0, -1, 0, -1, 0, 200, 4464, 0, -1, 0, -1},
            {1, -1, 0, most, least, most, least, 200, 70000, 0, most, least, most},
            {1, -1, 0, Long.MAX_VALUE, Long.MIN_VALUE, 3000000000L, -3000000000L, 200, 70000, 0, Long.MAX_VALUE, Long.MIN_VALUE, 9200000000000000000L}};
        for (int kind = 0; kind < 5; kind++) {
            h.turn(kind, 0, 1);
            Due.holds("23 DOUBLE to " + kind, h, 1, kind, due[kind]);
        }
        h.turn(Due.MARK, 0, 1);
        Due.holds("23 DOUBLE to MARK", h, 1, Due.MARK, 1, 1, 1, 1, 1, 1, 1, 1, 1, 0, 1, 1, 1);
        double[] d = {0.1, 1e39, -1e39, 1e-46, 7.1e-46, NAN, -0.0, 3.4028235677973366e38, 3.4028235677973362e38, 1.401298464324817e-45 * 1.5,
            1.401298464324817e-45 / 2, 1.0000000596046448, 1.1754943508222875e-38};
        Due.doubles(h, 0, d);
        h.turn(Due.FLOAT, 0, 1);
        float[] f = new float[d.length];
        for (int k = 0; k < d.length; k++) {
            f[k] = (float) d[k];
        }
        Due.holdsFloats("23 DOUBLE to FLOAT", h, 1, f);
        h.turn(Due.DOUBLE, 1, 2);
        for (int k = 0; k < d.length; k++) {
            d[k] = f[k];
        }
        Due.holdsDoubles("23 FLOAT to DOUBLE", h, 2, d);
        Due.floats(h, 0, 3e9f, -0.5f, Float.NaN, FINF, 1e-45f);
        h.turn(Due.INT, 0, 1);
        Due.holds("23 FLOAT to INT", h, 1, Due.INT, most, 0, 0, most, 0);
        h.turn(Due.LONG, 0, 1);
        Due.holds("23 FLOAT to LONG", h, 1, Due.LONG, 3000000000L, 0, 0, Long.MAX_VALUE, 0);
        h.turn(Due.MARK, 0, 1);
        Due.holds("23 FLOAT to MARK", h, 1, Due.MARK, 1, 1, 1, 1, 1);
        Due.floats(h, 0, 0f, -0f);
        h.turn(Due.MARK, 0, 1);
        Due.holds("23 FLOAT 0 to MARK", h, 1, Due.MARK, 0, 0);
    }

    private static void turnMarks() {
        LayerHouse h = new LayerHouse();
        Due.wholes(h, 0, Due.MARK, 0, 1);
        for (int kind = 0; kind < 8; kind++) {
            long one = kind == Due.FLOAT ? Due.bits(1f) : kind == Due.DOUBLE ? Due.bits(1.0) : 1;
            Due.yes("23 MARK to " + kind, h, h.turn(kind, 0, 1));
            Due.holds("23 MARK to " + kind, h, 1, kind, 0, one);
            h.turn(Due.MARK, 1, 2);
            Due.holds("23 MARK from " + kind, h, 2, Due.MARK, 0, 1);
        }
        Due.wholes(h, 0, Due.INT, -2, 256, 0);
        h.turn(Due.MARK, 0, 1);
        Due.holds("23 INT to MARK", h, 1, Due.MARK, 1, 1, 0);
        h.band(0, Due.MARK, 0);
        h.turn(Due.LONG, 0, 1);
        Due.holds("23 no cells", h, 1, Due.LONG);
    }

    private static void turnFaults() {
        LayerHouse h = new LayerHouse();
        Due.no("23 kind", h, h.turn(8, 0, 1), Due.REFUSED);
        Due.no("23 kind below", h, h.turn(-1, 0, 1), Due.REFUSED);
        Due.no("23 p", h, h.turn(0, 12, 1), Due.REFUSED);
        Due.no("23 r", h, h.turn(0, 0, -1), Due.REFUSED);
        Due.no("23 missing", h, h.turn(0, 0, 1), Due.MISSING);
        h.scale(0, 0, 0);
        Due.no("23 a scale", h, h.turn(0, 0, 1), Due.WRONG);
        h.table(0, 1, 1);
        Due.no("23 a table", h, h.turn(0, 0, 1), Due.WRONG);
        Due.is("23 nothing is put", h.holds(1), -1);
    }

    private static void bits() {
        LayerHouse h = new LayerHouse();
        Due.wholes(h, 0, Due.INT, 0x3f800000, -1, 0x80000000, 0x7f800000, 1);
        Due.yes("24 bits", h, h.bits(0, 1));
        Due.holdsFloats("24 INT", h, 1, 1f, Float.NaN, -0f, FINF, 1.4e-45f);
        h.bits(1, 2);
        Due.holds("24 FLOAT", h, 2, Due.INT, 0x3f800000, 0x7fc00000, 0x80000000, 0x7f800000, 1);
        Due.wholes(h, 0, Due.LONG, 0x3ff0000000000000L, -1, Long.MIN_VALUE, 1);
        h.bits(0, 0);
        Due.holdsDoubles("24 LONG, r may be p", h, 0, 1, NAN, -0.0, Double.MIN_VALUE);
        h.bits(0, 2);
        Due.holds("24 DOUBLE", h, 2, Due.LONG, 0x3ff0000000000000L, 0x7ff8000000000000L, Long.MIN_VALUE, 1);
        int[] others = {Due.BYTE, Due.SIGN, Due.SHORT, Due.MARK};
        for (int kind : others) {
            h.band(3, kind, 1);
            Due.no("24 kind " + kind, h, h.bits(3, 9), Due.WRONG);
        }
        h.row(3, 0, 1);
        Due.no("24 a row", h, h.bits(3, 9), Due.WRONG);
        Due.no("24 missing", h, h.bits(8, 9), Due.MISSING);
        Due.no("24 p", h, h.bits(12, 9), Due.REFUSED);
        Due.no("24 r", h, h.bits(8, 12), Due.REFUSED);
        Due.is("24 nothing is put", h.holds(9), -1);
    }

    private static final double[] DOUBLES = {0.0, -0.0, 1, -1, 0.5, -0.5, 1.5, 2.5, -1.5, -2.5, 0.3, -0.3, 0.7, -0.7, NAN, INF, -INF,
        Double.MAX_VALUE, -Double.MAX_VALUE, Double.MIN_VALUE, -Double.MIN_VALUE, Double.MIN_NORMAL, 2, 1e300,
        0.49999999999999994, -0.49999999999999994, 4503599627370495.5, -4503599627370495.5, 4503599627370497.5, 9007199254740993.0,
        9.3e18, -9.3e18, 1e-320};

    private static void mathDoubles() {
        LayerHouse h = new LayerHouse();
        Due.doubles(h, 0, DOUBLES);
        for (int op = 0; op < 12; op++) {
            long[] due = new long[DOUBLES.length];
            for (int k = 0; k < due.length; k++) {
                double x = DOUBLES[k];
                double[] all = {Math.abs(x), Math.floor(x), Math.ceil(x), Math.rint(x), Math.signum(x), Math.sqrt(x), Math.ulp(x),
                    Math.nextUp(x), Math.copySign(x - 1, x), 0, x * 8, 0};
                due[k] = op == 9 ? Math.getExponent(x) : op == 11 ? Math.round(x) : Due.bits(all[op]);
            }
            Due.yes("25 op " + op, h, h.math(op, 0, 1));
            Due.holds("25 op " + op, h, 1, op == 9 ? Due.INT : op == 11 ? Due.LONG : Due.DOUBLE, due);
        }
    }

    private static final float[] FLOATS = {0f, -0f, 1f, -1f, 0.5f, -0.5f, 1.5f, 2.5f, -2.5f, 0.3f, -0.3f, Float.NaN, FINF, -FINF, Float.MAX_VALUE,
        -Float.MAX_VALUE, Float.MIN_VALUE, -Float.MIN_VALUE, Float.MIN_NORMAL, 2f, 1e38f, 0.49999997f, 8388607.5f, 4194303.8f, 3e9f, -3e9f,
        1e-40f};

    private static void mathFloats() {
        LayerHouse h = new LayerHouse();
        Due.floats(h, 0, FLOATS);
        for (int op = 0; op < 12; op++) {
            long[] due = new long[FLOATS.length];
            for (int k = 0; k < due.length; k++) {
                float x = FLOATS[k];
                float[] all = {Math.abs(x), (float) Math.floor(x), (float) Math.ceil(x), (float) Math.rint(x), Math.signum(x),
                    (float) Math.sqrt(x), Math.ulp(x), Math.nextUp(x), Math.copySign(x - 1, x), 0, x * 8, 0};
                due[k] = op == 9 ? Math.getExponent(x) : op == 11 ? Math.round(x) : Due.bits(all[op]);
            }
            Due.yes("25 FLOAT op " + op, h, h.math(op, 0, 1));
            Due.holds("25 FLOAT op " + op, h, 1, op == 9 || op == 11 ? Due.INT : Due.FLOAT, due);
        }
    }

    private static void mathOthers() {
        LayerHouse h = new LayerHouse();
        Due.wholes(h, 0, Due.LONG, 9007199254740993L, -4);
        h.math(0, 0, 1);
        Due.holdsDoubles("25 LONGS as DOUBLES", h, 1, 9007199254740992.0, 4);
        h.math(11, 0, 1);
        Due.holds("25 LONGS as DOUBLES", h, 1, Due.LONG, 9007199254740992L, -4);
        Due.wholes(h, 0, Due.BYTE, 9, -9);
        h.math(5, 0, 0);
        Due.holdsDoubles("25 BYTES as DOUBLES", h, 0, 3, NAN);
        Due.no("25 op", h, h.math(12, 0, 9), Due.REFUSED);
        Due.no("25 op below", h, h.math(-1, 0, 9), Due.REFUSED);
        Due.no("25 p", h, h.math(0, 12, 9), Due.REFUSED);
        Due.no("25 r", h, h.math(0, 8, -1), Due.REFUSED);
        Due.no("25 missing", h, h.math(0, 8, 9), Due.MISSING);
        h.band(2, Due.MARK, 1);
        Due.no("25 marks", h, h.math(0, 2, 9), Due.WRONG);
        h.table(2, 1, 1);
        Due.no("25 a table", h, h.math(0, 2, 9), Due.WRONG);
        Due.is("25 nothing is put", h.holds(9), -1);
    }

    private static void fuse() {
        LayerHouse h = new LayerHouse();
        double third = 1.0 / 3;
        Due.doubles(h, 0, 2, 0.1, third, 1e308, INF);
        Due.doubles(h, 1, 3, 0.1, 3, 10, 0);
        Due.doubles(h, 2, 4, -0.01, -1, -1e308, 1, 7);
        Due.yes("26 fuse", h, h.fuse(0, 1, 2, 3));
        Due.holdsDoubles("26 the product is rounded first", h, 3, 10, 0.1 * 0.1 - 0.01, third * 3 - 1, INF, NAN);
        Due.floats(h, 0, 0.1f, 3f);
        Due.floats(h, 1, 0.1f, 1e38f);
        Due.floats(h, 2, -0.01f, -3e38f);
        h.fuse(0, 1, 2, 3);
        Due.holdsFloats("26 all FLOATS", h, 3, 0.1f * 0.1f - 0.01f, 3f * 1e38f - 3e38f);
        Due.wholes(h, 2, Due.INT, 1, 2);
        h.fuse(0, 1, 2, 3);
        Due.holdsDoubles("26 else DOUBLES", h, 3, (double) 0.1f * 0.1f + 1, 3.0 * 1e38f + 2);
        Due.wholes(h, 4, Due.INT, Integer.MAX_VALUE);
        h.fuse(4, 4, 4, 4);
        Due.holdsDoubles("26 INTS too", h, 4, 4611686014132420609.0 + 2147483647.0);
        h.band(5, Due.INT, 1);
        Due.no("26 q outside", h, h.fuse(0, 5, 2, 9), Due.OUTSIDE);
        Due.no("26 s outside", h, h.fuse(0, 2, 5, 9), Due.OUTSIDE);
        h.band(6, Due.MARK, 2);
        Due.no("26 p missing", h, h.fuse(8, 6, 6, 9), Due.MISSING);
        Due.no("26 p wrong", h, h.fuse(6, 8, 8, 9), Due.WRONG);
        Due.no("26 q missing", h, h.fuse(0, 8, 6, 9), Due.MISSING);
        Due.no("26 q wrong", h, h.fuse(0, 6, 8, 9), Due.WRONG);
        Due.no("26 s missing", h, h.fuse(0, 1, 8, 9), Due.MISSING);
        Due.no("26 s wrong", h, h.fuse(0, 1, 6, 9), Due.WRONG);
        Due.no("26 p", h, h.fuse(-1, 0, 0, 0), Due.REFUSED);
        Due.no("26 q", h, h.fuse(0, 12, 0, 0), Due.REFUSED);
        Due.no("26 s", h, h.fuse(0, 0, 12, 0), Due.REFUSED);
        Due.no("26 r", h, h.fuse(8, 8, 8, 12), Due.REFUSED);
        Due.is("26 nothing is put", h.holds(9), -1);
    }

    private static void apply() {
        LayerHouse h = new LayerHouse();
        Due.wholes(h, 0, Due.SHORT, 3, -32768, 0);
        h.scale(1, Due.bits(0.1), Due.bits(-0.3));
        Due.yes("27 apply", h, h.apply(0, 1, 2));
        Due.holdsDoubles("27 each rounded", h, 2, 3 * 0.1 - 0.3, -32768 * 0.1 - 0.3, -0.3);
        h.scale(1, Due.bits(INF), Due.bits(1.0));
        h.apply(0, 1, 2);
        Due.holdsDoubles("27 an infinite gain", h, 2, INF, -INF, NAN);
        Due.no("27 p", h, h.apply(12, 1, 9), Due.REFUSED);
        Due.no("27 q", h, h.apply(0, -1, 9), Due.REFUSED);
        Due.no("27 r", h, h.apply(8, 8, 12), Due.REFUSED);
        Due.no("27 p missing", h, h.apply(8, 0, 9), Due.MISSING);
        Due.no("27 p wrong", h, h.apply(1, 8, 9), Due.WRONG);
        Due.no("27 q wrong", h, h.apply(0, 0, 9), Due.WRONG);
        Due.no("27 q missing", h, h.apply(0, 8, 9), Due.MISSING);
        Due.is("27 nothing is put", h.holds(9), -1);
    }

    private static void stats(String what, LayerHouse h, double... due) {
        for (int op = 0; op < due.length; op++) {
            Due.yes("28 " + what + " op " + op, h, h.stat(op, 0), Due.bits(due[op]));
        }
    }

    private static void stat() {
        LayerHouse h = new LayerHouse();
        Due.wholes(h, 0, Due.INT, 3, -1, 6);
        stats("INTS", h, -1, 6, 8, 8 / 3.0, 0, 8);
        h.band(0, Due.DOUBLE, 0);
        stats("no cells", h, NAN, NAN, 0, NAN, 0, 0);
        Due.doubles(h, 0, 1, NAN, -2, NAN);
        stats("NaN", h, NAN, NAN, NAN, NAN, 2, -1);
        Due.doubles(h, 0, -0.0, 0.0);
        stats("zeros", h, -0.0, 0.0, 0.0, 0.0, 0, 0.0);
        Due.doubles(h, 0, -0.0);
        stats("from 0 on", h, -0.0, -0.0, 0.0, 0.0, 0, 0.0);
        Due.doubles(h, 0, 1, 1e100, 1, -1e100);
        stats("lost", h, -1e100, 1e100, 0, 0, 0, 0);
        Due.doubles(h, 0, 1, 1e-16, 1e-16, 1e-16, 1e-16);
        stats("put back", h, 1e-16, 1, 1, 0.2, 0, 1.0000000000000004);
        Due.doubles(h, 0, INF, 1);
        stats("infinite", h, 1, INF, INF, INF, 0, NAN);
        Due.no("28 op", h, h.stat(6, 0), Due.REFUSED);
        Due.no("28 op below", h, h.stat(-1, 0), Due.REFUSED);
        Due.no("28 p", h, h.stat(0, 12), Due.REFUSED);
        Due.no("28 missing", h, h.stat(0, 8), Due.MISSING);
        h.band(1, Due.MARK, 1);
        Due.no("28 marks", h, h.stat(0, 1), Due.WRONG);
        h.scale(1, 0, 0);
        Due.no("28 a scale", h, h.stat(0, 1), Due.WRONG);
    }
}
